import java.util.List;
import java.util.function.Consumer;
import java.util.function.ToIntFunction;

/**
 * "ERRORS": each call that is refused, with the right answer where several apply at once, in
 * almanacs that are empty, full, or at an end of a year; and that it changed nothing of the state,
 * the text, the history and the snapshot. Then that asking changes nothing either.
 */
public final class RefusedTest extends Scene {
    private static final int MIN = Integer.MIN_VALUE;
    private static final int MAX = Integer.MAX_VALUE;

    private Consumer<MistakeAlmanac> run;
    private List<Whole.Line> before;

    public static void main(String[] args) {
        RefusedTest test = new RefusedTest();
        test.in("a new almanac", Almanacs.NEW);
        test.refusedEverywhere();
        test.refusedInTheNew();
        test.in("a full almanac", Almanacs.FULL);
        test.refusedEverywhere();
        test.refusedInTheFull();
        test.in("the first day of a year", Almanacs.FIRST_DAY);
        test.refusedEverywhere();
        test.refusedOnTheFirstDay();
        test.in("the last day of a year", Almanacs.LAST_DAY);
        test.refusedEverywhere();
        test.refusedOnTheLastDay();
        test.due.end("RefusedTest");
    }

    private void in(String place, Consumer<MistakeAlmanac> newRun) {
        due.at("\"A call that returns an error or NONE changes nothing\", " + place);
        run = newRun;
        before = Whole.allBehind(run);
        due.holds("the run is the same each time", Whole.allBehind(run).equals(before));
        askingChangesNothing();
    }

    private void askingChangesNothing() {
        List<Whole.Ask> asks = Whole.asks();
        for (int first = 0; first < asks.size(); first += 64) {
            List<Whole.Ask> some = asks.subList(first, Math.min(asks.size(), first + 64));
            due.same("asking", Whole.allBehind(run.andThen(x -> {
                for (Whole.Ask ask : some) {
                    ask.answer().applyAsLong(x);
                }
                x.count(10);
                x.count(11);
                x.fault();
            })), before);
        }
    }

    private void refused(String call, int wanted, ToIntFunction<MistakeAlmanac> made) {
        MistakeAlmanac one = new MistakeAlmanac();
        run.accept(one);
        due.is(call, made.applyAsInt(one), wanted);
        due.same("behind " + call, Whole.allBehind(run.andThen(made::applyAsInt)), before);
    }

    // ---- what is out of range, is so in all almanacs

    private void refusedEverywhere() {
        refusedDays();
        refusedSaints();
        refusedSettings();
        refusedBets();
        refusedQuestionsOfDays();
        refusedQuestions();
    }

    private void refusedDays() {
        for (int warmth : new int[] {-41, 41, MIN, MAX}) {
            refused("measure(" + warmth + ")", BAD_VALUE, x -> x.measure(warmth));
            // Day 19 is not measured in any of the almanacs.
            refused("base(19, " + warmth + ")", BAD_VALUE, x -> x.base(19, warmth));
            refused("base(0, " + warmth + "), measured or not", BAD_VALUE, x -> x.base(0, warmth));
            refused("base(-1, " + warmth + ")", UNKNOWN, x -> x.base(-1, warmth));
            refused("base(20, " + warmth + ")", UNKNOWN, x -> x.base(20, warmth));
        }
        for (int day : new int[] {-1, 20, MIN, MAX}) {
            refused("base(" + day + ", 0)", UNKNOWN, x -> x.base(day, 0));
            refused("base(" + day + ", 40)", UNKNOWN, x -> x.base(day, 40));
        }
    }

    private void refusedSaints() {
        for (int feast : new int[] {-1, 20, MIN, MAX}) {
            refused("saint(" + feast + ", 0, 0, 1)", UNKNOWN, x -> x.saint(feast, 0, 0, 1));
            refused("saint(" + feast + ", 41, 21, 0)", UNKNOWN, x -> x.saint(feast, 41, 21, 0));
        }
        for (int bound : new int[] {-41, 41, MIN, MAX}) {
            refused("saint(0, " + bound + ", 0, 1)", BAD_VALUE, x -> x.saint(0, bound, 0, 1));
        }
        for (int effect : new int[] {-21, 21, MIN, MAX}) {
            refused("saint(19, 0, " + effect + ", 1)", BAD_VALUE, x -> x.saint(19, 0, effect, 1));
        }
        for (int length : new int[] {0, 10, -1, MIN, MAX}) {
            refused("saint(19, 0, 0, " + length + ")", BAD_VALUE, x -> x.saint(19, 0, 0, length));
        }
        refused("saint(0, -41, -21, 10)", BAD_VALUE, x -> x.saint(0, -41, -21, 10));
        for (int saint : new int[] {-1, 5, MIN, MAX}) {
            refused("strike(" + saint + ")", UNKNOWN, x -> x.strike(saint));
            refused("saintOf(" + saint + ", 0)", UNKNOWN, x -> x.saintOf(saint, 0));
            refused("saintOf(" + saint + ", 5)", UNKNOWN, x -> x.saintOf(saint, 5));
            refused("saintOf(" + saint + ", -1)", UNKNOWN, x -> x.saintOf(saint, -1));
        }
    }

    private void refusedSettings() {
        int[] lowest = {0, 0, -20, 1};
        int[] highest = {9, 100, 20, 9};
        for (int i = 0; i < 4; i++) {
            int which = i;
            for (int value : new int[] {lowest[which] - 1, highest[which] + 1, MIN, MAX}) {
                refused("set(" + which + ", " + value + ")", BAD_VALUE, x -> x.set(which, value));
            }
            // It is so already.
            refused("set(" + which + ", as it is)", NONE, x -> x.set(which, x.count(12 + which) - 1000));
        }
        for (int which : new int[] {-1, 4, MIN, MAX}) {
            refused("set(" + which + ", 1)", BAD_VALUE, x -> x.set(which, 1));
            refused("set(" + which + ", MIN)", BAD_VALUE, x -> x.set(which, MIN));
        }
    }

    private void refusedBets() {
        for (int reader : new int[] {-1, 4, MIN, MAX}) {
            refused("bet(" + reader + ", true, 1)", UNKNOWN, x -> x.bet(reader, true, 1));
            refused("bet(" + reader + ", false, 0)", UNKNOWN, x -> x.bet(reader, false, 0));
            refused("bet(" + reader + ", false, 1001)", UNKNOWN, x -> x.bet(reader, false, 1001));
            refused("takeBack(" + reader + ")", UNKNOWN, x -> x.takeBack(reader));
            refused("readerOf(" + reader + ", 0)", UNKNOWN, x -> x.readerOf(reader, 0));
            refused("readerOf(" + reader + ", 5)", UNKNOWN, x -> x.readerOf(reader, 5));
            refused("ifMeasured(" + reader + ", 0)", UNKNOWN, x -> x.ifMeasured(reader, 0));
            refused("ifMeasured(" + reader + ", 41)", UNKNOWN, x -> x.ifMeasured(reader, 41));
        }
        // Whether the reader has bet, or has no coins, is looked at behind this.
        for (int i = 0; i < 4; i++) {
            int reader = i;
            for (int coins : new int[] {0, 1001, -1, MIN, MAX}) {
                refused("bet(" + reader + ", true, " + coins + ")", BAD_VALUE, x -> x.bet(reader, true, coins));
            }
            // No reader of these almanacs has so many.
            refused("bet(" + reader + ", true, 1000)", NOT_POSSIBLE, x -> x.bet(reader, true, 1000));
            for (int warmth : new int[] {-41, 41, MIN, MAX}) {
                refused("ifMeasured(" + reader + ", " + warmth + ")", BAD_VALUE, x -> x.ifMeasured(reader, warmth));
            }
        }
    }

    private void refusedQuestionsOfDays() {
        for (int day : new int[] {-1, 20, MIN, MAX}) {
            refused("dayOf(" + day + ", 0)", UNKNOWN, x -> x.dayOf(day, 0));
            refused("dayOf(" + day + ", 2)", UNKNOWN, x -> x.dayOf(day, 2));
            refused("dayOf(" + day + ", 5)", UNKNOWN, x -> x.dayOf(day, 5));
            refused("past(0, " + day + ", 0)", UNKNOWN, x -> x.past(0, day, 0));
            refused("past(0, " + day + ", 2)", UNKNOWN, x -> x.past(0, day, 2));
            refused("mean(0, " + day + ", 0)", UNKNOWN, x -> x.mean(0, day, 0));
            refused("mean(0, " + day + ", 2)", UNKNOWN, x -> x.mean(0, day, 2));
            refused("nextBase(" + day + ")", UNKNOWN, x -> x.nextBase(day));
        }
        for (int what : new int[] {-1, 5, MIN, MAX}) {
            refused("dayOf(0, " + what + ")", BAD_VALUE, x -> x.dayOf(0, what));
            refused("dayOf(19, " + what + ")", BAD_VALUE, x -> x.dayOf(19, what));
        }
        for (int ago : new int[] {-1, 4, MIN, MAX}) {
            refused("past(" + ago + ", 0, 0)", UNKNOWN, x -> x.past(ago, 0, 0));
            refused("past(" + ago + ", 20, 2)", UNKNOWN, x -> x.past(ago, 20, 2));
            refused("past(" + ago + ", 0, 2)", UNKNOWN, x -> x.past(ago, 0, 2));
            refused("mean(" + ago + ", 0, 0)", UNKNOWN, x -> x.mean(ago, 0, 0));
            refused("mean(" + ago + ", 20, 2)", UNKNOWN, x -> x.mean(ago, 20, 2));
            refused("mean(" + ago + ", 0, 2)", UNKNOWN, x -> x.mean(ago, 0, 2));
        }
    }

    private void refusedQuestions() {
        for (int what : new int[] {-1, 16, MIN, MAX}) {
            refused("count(" + what + ")", BAD_VALUE, x -> x.count(what));
        }
        for (int what : new int[] {-1, 5, MIN, MAX}) {
            refused("readerOf(0, " + what + ")", BAD_VALUE, x -> x.readerOf(0, what));
            refused("readerOf(3, " + what + ")", BAD_VALUE, x -> x.readerOf(3, what));
        }
        for (int what : new int[] {-1, 2, MIN, MAX}) {
            refused("bestBound(" + what + ")", BAD_VALUE, x -> x.bestBound(what));
            refused("bestRate(" + what + ")", BAD_VALUE, x -> x.bestRate(what));
        }
    }

    // ---- what is refused by the state

    private void refusedInTheNew() {
        refused("undo()", NONE, x -> x.undo());
        refused("restore()", NONE, x -> x.restore());
        refused("measureAll()", -100, x -> x.measureAll());
        refused("clearText() of nothing", 0, x -> x.clearText());
        refused("strike(0)", UNKNOWN, x -> x.strike(0));
        refused("saintOf(0, 0)", UNKNOWN, x -> x.saintOf(0, 0));
        refused("saintOf(0, 5)", UNKNOWN, x -> x.saintOf(0, 5));
        refused("base(0, 0)", NONE, x -> x.base(0, 0));
        refused("base(19, 0)", NONE, x -> x.base(19, 0));
        refused("dayOf(0, 2)", NONE, x -> x.dayOf(0, 2));
        refused("dayOf(0, 3)", NONE, x -> x.dayOf(0, 3));
        refused("past(0, 0, 0)", UNKNOWN, x -> x.past(0, 0, 0));
        refused("past(0, 0, 2)", UNKNOWN, x -> x.past(0, 0, 2));
        refused("mean(0, 0, 0)", UNKNOWN, x -> x.mean(0, 0, 0));
        refused("mean(0, 0, 2)", UNKNOWN, x -> x.mean(0, 0, 2));
        refused("count(8)", NONE, x -> x.count(8));
        for (int i = 0; i < 2; i++) {
            int what = i;
            refused("bestBound(" + what + ")", NONE, x -> x.bestBound(what));
            refused("bestRate(" + what + ")", NONE, x -> x.bestRate(what));
        }
        for (int i = 0; i < 4; i++) {
            int reader = i;
            refused("takeBack(" + reader + ")", NONE, x -> x.takeBack(reader));
            refused("bet(" + reader + ", true, 101)", NOT_POSSIBLE, x -> x.bet(reader, true, 101));
        }
    }

    private void refusedInTheFull() {
        refused("saint(0, 0, 0, 1)", FULL, x -> x.saint(0, 0, 0, 1));
        refused("saint(19, 40, 20, 9)", FULL, x -> x.saint(19, 40, 20, 9));
        refused("base(0, 3)", NOT_POSSIBLE, x -> x.base(0, 3));
        refused("base(14, 3)", NOT_POSSIBLE, x -> x.base(14, 3));
        refused("base(14, as it is)", NOT_POSSIBLE, x -> x.base(14, x.dayOf(14, 0) - 1000));
        refused("base(14, 41)", BAD_VALUE, x -> x.base(14, 41));
        refused("base(15, as it is)", NONE, x -> x.base(15, x.dayOf(15, 0) - 1000));
        refused("base(18, 40)", NONE, x -> x.base(18, 40));
        refused("base(19, -40)", NONE, x -> x.base(19, -40));
        for (char sign : new char[] {'0', ';', 'x', 0, 65535}) {
            refused("type((char) " + (int) sign + ")", FULL, x -> x.type(sign));
        }
        refused("measureAll()", -160, x -> x.measureAll());
        refused("fault()", 60, x -> x.fault());
        refused("bet(0, true, 1)", NOT_POSSIBLE, x -> x.bet(0, true, 1));
        refused("bet(0, false, 1)", NOT_POSSIBLE, x -> x.bet(0, false, 1));
        refused("bet(1, true, 1)", NOT_POSSIBLE, x -> x.bet(1, true, 1));
        refused("bet(2, true, 1)", NOT_POSSIBLE, x -> x.bet(2, true, 1));
        refused("bet(3, true, 99)", NOT_POSSIBLE, x -> x.bet(3, true, 99));
        refused("takeBack(1)", NONE, x -> x.takeBack(1));
        refused("dayOf(15, 2)", NONE, x -> x.dayOf(15, 2));
        refused("dayOf(15, 3)", NONE, x -> x.dayOf(15, 3));
        refused("dayOf(19, 3)", NONE, x -> x.dayOf(19, 3));
        refused("past(3, 0, 2)", BAD_VALUE, x -> x.past(3, 0, 2));
        refused("past(3, 0, -1)", BAD_VALUE, x -> x.past(3, 0, -1));
        refused("mean(3, 19, 2)", BAD_VALUE, x -> x.mean(3, 19, 2));
        refused("mean(3, 19, MIN)", BAD_VALUE, x -> x.mean(3, 19, MIN));
        refused("saintOf(4, 5)", BAD_VALUE, x -> x.saintOf(4, 5));
        refused("saintOf(4, -1)", BAD_VALUE, x -> x.saintOf(4, -1));
    }

    private void refusedOnTheFirstDay() {
        refused("undo()", NONE, x -> x.undo());
        refused("restore()", NONE, x -> x.restore());
        refused("measureAll()", -103, x -> x.measureAll());
        refused("strike(2)", UNKNOWN, x -> x.strike(2));
        refused("saintOf(2, 0)", UNKNOWN, x -> x.saintOf(2, 0));
        refused("saintOf(1, 5)", BAD_VALUE, x -> x.saintOf(1, 5));
        refused("base(0, -3)", NONE, x -> x.base(0, -3));
        refused("base(19, -3)", NONE, x -> x.base(19, -3));
        refused("dayOf(0, 2)", NONE, x -> x.dayOf(0, 2));
        refused("dayOf(19, 3)", NONE, x -> x.dayOf(19, 3));
        refused("past(2, 0, 0)", UNKNOWN, x -> x.past(2, 0, 0));
        refused("past(1, 0, 2)", BAD_VALUE, x -> x.past(1, 0, 2));
        refused("mean(2, 0, 0)", UNKNOWN, x -> x.mean(2, 0, 0));
        refused("mean(1, 0, -1)", BAD_VALUE, x -> x.mean(1, 0, -1));
        refused("takeBack(3)", NONE, x -> x.takeBack(3));
    }

    private void refusedOnTheLastDay() {
        for (int i = 0; i < 19; i++) {
            int day = i;
            refused("base(" + day + ", 40)", NOT_POSSIBLE, x -> x.base(day, 40));
        }
        refused("base(18, as it is)", NOT_POSSIBLE, x -> x.base(18, x.dayOf(18, 0) - 1000));
        refused("base(19, as it is)", NONE, x -> x.base(19, x.dayOf(19, 0) - 1000));
        refused("dayOf(19, 2)", NONE, x -> x.dayOf(19, 2));
        refused("past(1, 0, 0)", UNKNOWN, x -> x.past(1, 0, 0));
        refused("past(1, 0, 2)", UNKNOWN, x -> x.past(1, 0, 2));
        refused("past(0, 0, 2)", BAD_VALUE, x -> x.past(0, 0, 2));
        refused("mean(1, 19, 1)", UNKNOWN, x -> x.mean(1, 19, 1));
        refused("bestRate(0)", NONE, x -> x.bestRate(0));
        refused("bestRate(1)", NONE, x -> x.bestRate(1));
        refused("strike(1)", UNKNOWN, x -> x.strike(1));
        refused("saintOf(1, 0)", UNKNOWN, x -> x.saintOf(1, 0));
        for (int i = 0; i < 4; i++) {
            int reader = i;
            refused("bet(" + reader + ", true, 1)", NOT_POSSIBLE, x -> x.bet(reader, true, 1));
        }
    }
}
