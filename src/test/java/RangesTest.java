import java.util.function.Consumer;

/** For each argument of each promise: every value of its range, and those near it and far beyond. */
public final class RangesTest extends Scene {
    private static final Consumer<MistakeAlmanac> NEW = Almanacs.NEW;
    private static final Consumer<MistakeAlmanac> ALL_FULL = Almanacs.FULL;

    public static void main(String[] args) {
        RangesTest test = new RangesTest();
        test.days();
        test.saints();
        test.settings();
        test.bets();
        test.questionsOfDays();
        test.questionsOfYears();
        test.questionsOfSaintsAndReaders();
        test.otherQuestions();
        test.due.end("RangesTest");
    }

    private void days() {
        due.at("promise 2, -40 to 40");
        range("measure(..)", -40, 40, BAD_VALUE, NEW, (x, v) -> x.measure(v), v -> 1000 + v);
        due.at("promise 4, day 0 to 19");
        range("base(.., -40)", 0, 19, UNKNOWN, NEW, (x, v) -> x.base(v, -40), v -> 1000);
        range("base(.., 40)", 0, 19, UNKNOWN, x -> Scene.everyBase(x, -40), (x, v) -> x.base(v, 40), v -> 960);
        range("base(.., 9) in the full", 0, 19, UNKNOWN, ALL_FULL, (x, v) -> x.base(v, 9) > 0 ? 1 : x.base(v, 9),
                v -> v < 15 ? NOT_POSSIBLE : 1);
        due.at("promise 4, base -40 to 40");
        range("base(0, ..)", -40, 40, BAD_VALUE, NEW, (x, v) -> x.base(0, v), v -> v == 0 ? NONE : 1000);
        range("base(19, ..)", -40, 40, BAD_VALUE, x -> x.base(19, 40), (x, v) -> x.base(19, v),
                v -> v == 40 ? NONE : 1040);
        range("base(0, ..), measured", -40, 40, BAD_VALUE, x -> x.measure(0), (x, v) -> x.base(0, v),
                v -> NOT_POSSIBLE);
        range("the base behind base(7, ..)", -40, 40, 1000, NEW, (x, v) -> {
            x.base(7, v);
            return x.dayOf(7, 0);
        }, v -> 1000 + v);
    }

    private void saints() {
        due.at("promise 5, feast 0 to 19, bound -40 to 40, effect -20 to 20, length 1 to 9");
        range("saint(.., 0, 0, 1)", 0, 19, UNKNOWN, NEW, (x, v) -> x.saint(v, 0, 0, 1), v -> 0);
        range("saint(0, .., 0, 1)", -40, 40, BAD_VALUE, NEW, (x, v) -> x.saint(0, v, 0, 1), v -> 0);
        range("saint(0, 0, .., 1)", -20, 20, BAD_VALUE, NEW, (x, v) -> x.saint(0, 0, v, 1), v -> 0);
        range("saint(0, 0, 0, ..)", 1, 9, BAD_VALUE, NEW, (x, v) -> x.saint(0, 0, 0, v), v -> 0);
        range("saint(.., 0, 0, 1) in the full", 0, 19, UNKNOWN, ALL_FULL, (x, v) -> x.saint(v, 0, 0, 1), v -> FULL);
        range("saint(0, .., 0, 1) in the full", -40, 40, BAD_VALUE, ALL_FULL, (x, v) -> x.saint(0, v, 0, 1), v -> FULL);
        range("saint(0, 0, .., 1) in the full", -20, 20, BAD_VALUE, ALL_FULL, (x, v) -> x.saint(0, 0, v, 1), v -> FULL);
        range("saint(0, 0, 0, ..) in the full", 1, 9, BAD_VALUE, ALL_FULL, (x, v) -> x.saint(0, 0, 0, v), v -> FULL);
        // Of a saint that was refused, there is nothing to tell.
        range("saintOf(0, 0)", 0, 19, UNKNOWN, NEW, (x, v) -> x.saintOf(x.saint(v, 0, 0, 1), 0), v -> v);
        range("saintOf(0, 1)", -40, 40, UNKNOWN, NEW, (x, v) -> x.saintOf(x.saint(0, v, 0, 1), 1), v -> 1000 + v);
        range("saintOf(0, 2)", -20, 20, UNKNOWN, NEW, (x, v) -> x.saintOf(x.saint(0, 0, v, 1), 2), v -> 1000 + v);
        range("saintOf(0, 3)", 1, 9, UNKNOWN, NEW, (x, v) -> x.saintOf(x.saint(0, 0, 0, v), 3), v -> v);
        due.at("promise 6, a saint");
        for (int saints = 0; saints <= 5; saints++) {
            int many = saints;
            range("strike(..) of " + many, 0, many - 1, UNKNOWN, x -> someSaints(x, many), (x, v) -> x.strike(v),
                    v -> many - 1);
        }
    }

    private static void someSaints(MistakeAlmanac x, int many) {
        for (int i = 0; i < many; i++) {
            x.saint(i, i, i, i + 1);
        }
    }

    private void settings() {
        due.at("promise 7, which 0 to 3, value in its range");
        int[] lowest = {0, 0, -20, 1};
        int[] highest = {9, 100, 20, 9};
        int[] first = {2, 50, 0, 2};
        range("set(.., 1)", 0, 3, BAD_VALUE, NEW, (x, v) -> x.set(v, 1), v -> 1000 + first[v]);
        range("set(.., 10)", 1, 2, BAD_VALUE, NEW, (x, v) -> x.set(v, 10), v -> 1000 + first[v]);
        for (int i = 0; i < 4; i++) {
            int which = i;
            range("set(" + which + ", ..)", lowest[which], highest[which], BAD_VALUE, NEW, (x, v) -> x.set(which, v),
                    v -> v == first[which] ? NONE : 1000 + first[which]);
            range("the setting " + which, lowest[which], highest[which], 1000 + first[which], NEW, (x, v) -> {
                x.set(which, v);
                return x.count(12 + which);
            }, v -> 1000 + v);
        }
    }

    private void bets() {
        due.at("promise 8, reader 0 to 3, coins 1 to 1000");
        range("bet(.., true, 100)", 0, 3, UNKNOWN, NEW, (x, v) -> x.bet(v, true, 100), v -> 0);
        range("bet(.., false, 0)", 0, 3, UNKNOWN, NEW, (x, v) -> x.bet(v, false, 0), v -> BAD_VALUE);
        range("bet(.., false, 101)", 0, 3, UNKNOWN, NEW, (x, v) -> x.bet(v, false, 101), v -> NOT_POSSIBLE);
        range("bet(0, true, ..) of 100", 1, 1000, BAD_VALUE, NEW, (x, v) -> x.bet(0, true, v),
                v -> v <= 100 ? 100 - v : NOT_POSSIBLE);
        range("bet(0, true, ..) of 1000", 1, 1000, BAD_VALUE, RangesTest::makeRich, (x, v) -> x.bet(0, true, v),
                v -> 1000 - v);
        range("bet(0, true, ..) with a bet", 1, 1000, BAD_VALUE, x -> x.bet(0, true, 1),
                (x, v) -> x.bet(0, true, v), v -> NOT_POSSIBLE);
        due.at("promise 9, reader 0 to 3");
        range("takeBack(..)", 0, 3, UNKNOWN, NEW, (x, v) -> x.takeBack(v), v -> NONE);
        range("takeBack(..) of bets", 0, 3, UNKNOWN, RangesTest::betAll, (x, v) -> x.takeBack(v), v -> 100);
    }

    private static void makeRich(MistakeAlmanac x) {
        x.set(3, 9);
        x.bet(0, false, 100);
        x.measure(1);
    }

    private static void betAll(MistakeAlmanac x) {
        for (int reader = 0; reader < 4; reader++) {
            x.bet(reader, true, 10 * (reader + 1));
        }
    }

    private void questionsOfDays() {
        due.at("promise 16, day 0 to 19, what 0 to 4");
        for (int what = 0; what <= 4; what++) {
            int one = what;
            range("dayOf(.., " + what + ")", 0, 19, UNKNOWN, NEW, (x, v) -> x.dayOf(v, one),
                    v -> one == 4 ? 1 : one >= 2 ? NONE : 1000);
            range("dayOf(.., " + what + "), measured", 0, 19, UNKNOWN, x -> warmDays(x, 7), (x, v) -> x.dayOf(v, one),
                    v -> one == 4 ? 1 : one < 2 ? 1000 : v < 7 ? 1001 + v : NONE);
        }
        range("dayOf(.., 5)", 0, 19, UNKNOWN, NEW, (x, v) -> x.dayOf(v, 5), v -> BAD_VALUE);
        range("dayOf(0, ..)", 0, 4, BAD_VALUE, x -> x.measure(-3), (x, v) -> x.dayOf(0, v),
                v -> v == 4 ? 1 : v < 2 ? 1000 : 997);
        due.at("promise 23, day 0 to 19");
        range("nextBase(..)", 0, 19, UNKNOWN, NEW, (x, v) -> x.nextBase(v), v -> 1000);
        range("nextBase(..)", 0, 19, UNKNOWN, x -> Scene.everyBase(x, -40), (x, v) -> x.nextBase(v), v -> 960);
    }

    private static void warmDays(MistakeAlmanac x, int days) {
        for (int day = 1; day <= days; day++) {
            x.measure(day);
        }
    }

    /** The year numbered n, from 1, has the warmth n on all days; the bases stay 0. */
    private static void warmYears(MistakeAlmanac x, int years) {
        x.set(1, 0);
        for (int year = 1; year <= years; year++) {
            x.clearText();
            Scene.type(x, year + "*20");
            x.measureAll();
        }
    }

    private void questionsOfYears() {
        due.at("promises 17 and 18, ago 0 to 3 of the years that are known, day 0 to 19, what and way 0 to 1");
        for (int years = 0; years <= 6; years++) {
            int many = years;
            int last = Math.min(4, many) - 1;
            Consumer<MistakeAlmanac> run = x -> warmYears(x, many);
            range("past(.., 0, 0) of " + many, 0, last, UNKNOWN, run, (x, v) -> x.past(v, 0, 0), v -> 1000 + many - v);
            range("past(.., 19, 1) of " + many, 0, last, UNKNOWN, run, (x, v) -> x.past(v, 19, 1), v -> 1000 + many - v);
            range("past(.., 19, 2) of " + many, 0, last, UNKNOWN, run, (x, v) -> x.past(v, 19, 2), v -> BAD_VALUE);
            range("mean(.., 0, 0) of " + many, 0, last, UNKNOWN, run, (x, v) -> x.mean(v, 0, 0), v -> 1000 + many - v);
            range("mean(.., 19, 1) of " + many, 0, last, UNKNOWN, run, (x, v) -> x.mean(v, 19, 1), v -> 1000 + many - v);
            range("mean(.., 19, 2) of " + many, 0, last, UNKNOWN, run, (x, v) -> x.mean(v, 19, 2), v -> BAD_VALUE);
        }
        Consumer<MistakeAlmanac> two = x -> warmYears(x, 2);
        range("past(1, .., 1)", 0, 19, UNKNOWN, two, (x, v) -> x.past(1, v, 1), v -> 1001);
        range("past(2, .., 1)", 0, -1, UNKNOWN, two, (x, v) -> x.past(2, v, 1), v -> 0);
        range("past(1, 0, ..)", 0, 1, BAD_VALUE, two, (x, v) -> x.past(1, 0, v), v -> 1001);
        range("past(1, 20, ..)", 0, 1, UNKNOWN, two, (x, v) -> x.past(1, 20, v), v -> UNKNOWN);
        range("mean(1, .., 1)", 0, 19, UNKNOWN, two, (x, v) -> x.mean(1, v, 1), v -> 1001);
        range("mean(1, 0, ..)", 0, 1, BAD_VALUE, two, (x, v) -> x.mean(1, 0, v), v -> 1001);
        range("mean(1, 20, ..)", 0, 1, UNKNOWN, two, (x, v) -> x.mean(1, 20, v), v -> UNKNOWN);
    }

    private void questionsOfSaintsAndReaders() {
        due.at("promise 19, a saint, what 0 to 4");
        for (int saints = 0; saints <= 5; saints++) {
            int many = saints;
            range("saintOf(.., 0) of " + many, 0, many - 1, UNKNOWN, x -> someSaints(x, many),
                    (x, v) -> x.saintOf(v, 0), v -> v);
            range("saintOf(.., 5) of " + many, 0, many - 1, UNKNOWN, x -> someSaints(x, many),
                    (x, v) -> x.saintOf(v, 5), v -> BAD_VALUE);
        }
        int[] saint = {3, 960, 1020, 9, 0};
        range("saintOf(0, ..)", 0, 4, BAD_VALUE, x -> x.saint(3, -40, 20, 9), (x, v) -> x.saintOf(0, v), v -> saint[v]);
        due.at("promise 20, reader 0 to 3, what 0 to 4");
        range("readerOf(.., 0)", 0, 3, UNKNOWN, RangesTest::betAll, (x, v) -> x.readerOf(v, 0), v -> 90 - 10 * v);
        range("readerOf(.., 1)", 0, 3, UNKNOWN, RangesTest::betAll, (x, v) -> x.readerOf(v, 1), v -> 10 + 10 * v);
        range("readerOf(.., 5)", 0, 3, UNKNOWN, NEW, (x, v) -> x.readerOf(v, 5), v -> BAD_VALUE);
        int[] reader = {60, 40, 1, 0, 0};
        range("readerOf(3, ..)", 0, 4, BAD_VALUE, RangesTest::betAll, (x, v) -> x.readerOf(3, v), v -> reader[v]);
    }

    private void otherQuestions() {
        due.at("promise 21, what 0 to 15");
        int[] counts = {0, 0, 0, 0, 0, 0, 0, 0, NONE, 100000, 0, 0, 1002, 1050, 1000, 1002};
        range("count(..)", 0, 15, BAD_VALUE, NEW, (x, v) -> x.count(v), v -> counts[v]);
        int[] then = {2, 1, 2, 0, 1, 0, 40, 8, 40, 99995, 4, 2, 1002, 1000, 1000, 1002};
        range("count(..) then", 0, 15, BAD_VALUE, x -> {
            warmYears(x, 2);
            x.clearText();
            Scene.type(x, "1;");
            x.bet(0, true, 5);
            x.measure(-8);
        }, (x, v) -> x.count(v), v -> then[v]);
        due.at("promises 24 and 25, what 0 to 1");
        range("bestBound(..)", 0, 1, BAD_VALUE, NEW, (x, v) -> x.bestBound(v), v -> NONE);
        range("bestRate(..)", 0, 1, BAD_VALUE, NEW, (x, v) -> x.bestRate(v), v -> NONE);
        range("bestBound(..)", 0, 1, BAD_VALUE, x -> warmYears(x, 1), (x, v) -> x.bestBound(v), v -> v == 0 ? 999 : 0);
        range("bestRate(..)", 0, 1, BAD_VALUE, x -> warmYears(x, 1), (x, v) -> x.bestRate(v), v -> NONE);
        // Mistakes of 1 mend the bases to 1 by the rate 100 alone, and the next warmths are 2.
        range("bestRate(..)", 0, 1, BAD_VALUE, x -> warmYears(x, 2), (x, v) -> x.bestRate(v), v -> v == 0 ? 100 : 20);
        due.at("promise 26, reader 0 to 3, warmth -40 to 40");
        range("ifMeasured(.., 0)", 0, 3, UNKNOWN, RangesTest::betAll, (x, v) -> x.ifMeasured(v, 0),
                v -> 110 + 10 * v);
        range("ifMeasured(.., 41)", 0, 3, UNKNOWN, RangesTest::betAll, (x, v) -> x.ifMeasured(v, 41), v -> BAD_VALUE);
        range("ifMeasured(3, ..)", -40, 40, BAD_VALUE, RangesTest::betAll, (x, v) -> x.ifMeasured(3, v),
                v -> v <= 0 ? 140 : 60);
        range("ifMeasured(3, ..) without a bet", -40, 40, BAD_VALUE, NEW, (x, v) -> x.ifMeasured(3, v), v -> 100);
    }
}
