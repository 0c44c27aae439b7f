/** Terms, "FROSTS, BETS": each sentence just at its ends. */
public final class FrostsEdgesTest extends Scene {
    public static void main(String[] args) {
        FrostsEdgesTest test = new FrostsEdgesTest();
        test.frosts();
        test.bets();
        test.purses();
        test.due.end("FrostsEdgesTest");
    }

    private void frosts() {
        foretoldAtMostTheBound();
        clampedForetellingAndBound();
        zeroOrLess();
        hitsMissesAndFalseAlarms();
        theBoundOfThen();
    }

    private void bets() {
        fourReaders();
        oneBetAtATime();
        betIsForOneDay();
        betOverTheEndOfTheYear();
        firstDayOfAText();
        whoWasRight();
        theOddsOfThen();
        allReadersAtOnce();
    }

    private void purses() {
        poorestReader();
        richReader();
        almanacsPurse();
        almanacsPurseFarBelowZero();
    }

    // ---- frosts

    private void foretoldAtMostTheBound() {
        fresh("\"Frost is foretold for a day if what is foretold is at most the setting 2\"");
        for (int bound = -20; bound <= 20; bound++) {
            again();
            x.set(2, bound);
            x.base(0, bound - 1);
            x.base(1, bound);
            x.base(2, bound + 1);
            due.is("dayOf(0, 4) below " + bound, x.dayOf(0, 4), 1);
            due.is("dayOf(1, 4) at " + bound, x.dayOf(1, 4), 1);
            due.is("dayOf(2, 4) above " + bound, x.dayOf(2, 4), 0);
            x.measure(0);
            isCount(4, 1);
            x.measure(0);
            isCount(4, 2);
            x.measure(0);
            isCount(4, 2);
            isCount(5, 1);
            isCount(6, 0);
            due.is("dayOf(1, 4), measured", x.dayOf(1, 4), 1);
            due.is("dayOf(2, 4), measured", x.dayOf(2, 4), 0);
        }
    }

    private void clampedForetellingAndBound() {
        fresh("\"if what is foretold is at most the setting 2\": the saints count too");
        x.set(2, 20);
        x.base(1, 20);
        x.base(2, 20);
        x.base(3, -1);
        x.saint(0, 40, 1, 1);
        x.saint(1, 40, -20, 1);
        x.saint(2, 40, 20, 1);
        due.is("dayOf(1, 4) ahead of the feast", x.dayOf(1, 4), 1);
        x.measure(0);
        due.is("dayOf(1, 4) with 21", x.dayOf(1, 4), 0);
        x.measure(1);
        due.is("dayOf(2, 4) with 0", x.dayOf(2, 4), 1);
        x.measure(1);
        due.is("dayOf(3, 4) with 19", x.dayOf(3, 4), 1);
        isCount(4, 1);
        isCount(5, 0);
        isCount(6, 1);
    }

    private void zeroOrLess() {
        int[] warmths = {-40, -39, -1, 0, 1, 2, 39, 40};
        for (int warmth : warmths) {
            fresh("\"there is frost on it if its warmth is 0 or less\", at " + warmth);
            // The bound of foretold frost has nothing to do with what frost is.
            x.set(2, 7);
            x.measure(warmth);
            isCount(4, warmth <= 0 ? 1 : 0);
            isCount(6, warmth <= 0 ? 0 : 1);
            again();
            x.set(2, -7);
            x.measure(warmth);
            isCount(5, warmth <= 0 ? 1 : 0);
            isCount(4, 0);
            isCount(6, 0);
        }
    }

    private void hitsMissesAndFalseAlarms() {
        int[] tolds = {0, 0, 1, 1};
        int[] warmths = {0, 1, 0, 1};
        int[] counted = {4, 6, 5, 0};
        for (int i = 0; i < 4; i++) {
            fresh("\"it is a hit .., a miss .., a false alarm ..\", foretold " + tolds[i] + ", warmth " + warmths[i]);
            x.base(0, tolds[i]);
            x.measure(warmths[i]);
            for (int what = 4; what <= 6; what++) {
                isCount(what, what == counted[i] ? 1 : 0);
            }
        }
    }

    private void theBoundOfThen() {
        fresh("\"When a day is measured: it is a hit ..\", by the bound of then");
        x.set(2, -1);
        x.measure(0);
        x.set(2, 0);
        isCount(4, 0);
        isCount(5, 1);
        x.measure(0);
        x.set(2, -20);
        isCount(4, 1);
        isCount(5, 1);
        due.is("dayOf(1, 4) by the bound of now", x.dayOf(1, 4), 0);
    }

    // ---- bets

    private void fourReaders() {
        fresh("\"There are 4 readers, 0 to 3, each with a purse (100 coins at first)\"");
        for (int reader = 0; reader < 4; reader++) {
            due.is("readerOf(" + reader + ", 0)", x.readerOf(reader, 0), 100);
            due.is("bet of 101", x.bet(reader, true, 101), NOT_POSSIBLE);
            due.is("bet of 100", x.bet(reader, true, 100), 0);
        }
        due.is("bet(-1, true, 1)", x.bet(-1, true, 1), UNKNOWN);
        due.is("bet(4, true, 1)", x.bet(4, true, 1), UNKNOWN);
        due.is("readerOf(-1, 0)", x.readerOf(-1, 0), UNKNOWN);
        due.is("readerOf(4, 0)", x.readerOf(4, 0), UNKNOWN);
    }

    private void oneBetAtATime() {
        fresh("\"one bet at a time\"");
        due.is("bet(0, true, 1)", x.bet(0, true, 1), 99);
        due.is("bet(0, true, 1)", x.bet(0, true, 1), NOT_POSSIBLE);
        due.is("bet(0, false, 99)", x.bet(0, false, 99), NOT_POSSIBLE);
        due.is("readerOf(0, 0)", x.readerOf(0, 0), 99);
        due.is("readerOf(0, 1)", x.readerOf(0, 1), 1);
        due.is("readerOf(0, 2)", x.readerOf(0, 2), 1);
        due.is("another reader", x.bet(1, false, 100), 0);
        due.is("takeBack(0)", x.takeBack(0), 100);
        due.is("bet(0, false, 2)", x.bet(0, false, 2), 98);
        due.is("readerOf(0, 2)", x.readerOf(0, 2), 0);
        x.measure(0);
        due.is("bet(0, true, 98)", x.bet(0, true, 98), 0);
        x.undo();
        due.is("bet behind undo()", x.bet(0, true, 98), 0);
        due.is("bet behind it", x.bet(0, true, 1), NOT_POSSIBLE);
    }

    private void betIsForOneDay() {
        fresh("\"bet coins on the day that is measured next\"");
        x.bet(0, true, 10);
        x.measure(0);
        due.is("readerOf(0, 0)", x.readerOf(0, 0), 110);
        due.is("readerOf(0, 1)", x.readerOf(0, 1), 0);
        due.is("readerOf(0, 2)", x.readerOf(0, 2), 0);
        x.measure(0);
        x.measure(1);
        due.is("readerOf(0, 0)", x.readerOf(0, 0), 110);
        due.is("readerOf(0, 3)", x.readerOf(0, 3), 1);
        due.is("readerOf(0, 4)", x.readerOf(0, 4), 0);
        isCount(9, 99990);
    }

    private void betOverTheEndOfTheYear() {
        fresh("a bet on the last day, and one on the first day of the next year");
        measureText("0*19", 19);
        x.bet(0, true, 10);
        x.measure(0);
        due.is("readerOf(0, 0) behind the year's end", x.readerOf(0, 0), 110);
        due.is("readerOf(0, 1)", x.readerOf(0, 1), 0);
        x.bet(0, true, 10);
        isCount(1, 0);
        due.is("readerOf(0, 1) ahead of day 0", x.readerOf(0, 1), 10);
        x.measure(1);
        due.is("readerOf(0, 0)", x.readerOf(0, 0), 100);
        due.is("readerOf(0, 4)", x.readerOf(0, 4), 1);
    }

    private void firstDayOfAText() {
        fresh("\"When the day is measured\", in a text: the first day alone");
        x.bet(0, true, 10);
        x.bet(1, false, 10);
        measureText("1;0*19", 20);
        due.is("readerOf(0, 0)", x.readerOf(0, 0), 90);
        due.is("readerOf(1, 0), foretold otherwise", x.readerOf(1, 0), 120);
        due.is("readerOf(0, 4)", x.readerOf(0, 4), 1);
        due.is("readerOf(1, 3)", x.readerOf(1, 3), 1);
    }

    private void betOn(boolean frost, int warmth, int told, int odds, int purse) {
        again();
        if (told != 0) {
            x.base(0, told);
        }
        if (odds != 2) {
            x.set(3, odds);
        }
        x.bet(3, frost, 10);
        due.is("ifMeasured(3, " + warmth + ")", x.ifMeasured(3, warmth), purse);
        x.measure(warmth);
        due.is("readerOf(3, 0) with " + frost + ", " + warmth + ", " + told + ", " + odds,
                x.readerOf(3, 0), purse);
        due.is("readerOf(3, 3)", x.readerOf(3, 3), purse > 100 ? 1 : 0);
        due.is("readerOf(3, 4)", x.readerOf(3, 4), purse < 100 ? 1 : 0);
        isCount(9, 100000 + 100 - purse);
    }

    private void whoWasRight() {
        fresh("\"a reader who was right gets the coins back, and .. more ..; one who was wrong loses them\"");
        int[] odds = {1, 2, 3, 8, 9};
        for (int one : odds) {
            betOn(true, 0, 0, one, 110);
            betOn(true, 0, 1, one, 100 + 10 * one);
            betOn(false, 1, 0, one, 100 + 10 * one);
            betOn(false, 1, 1, one, 110);
            betOn(true, 1, 0, one, 90);
            betOn(true, 1, 1, one, 90);
            betOn(false, 0, 0, one, 90);
            betOn(false, 0, 1, one, 90);
        }
    }

    private void theOddsOfThen() {
        fresh("\"When the day is measured\": by the odds and the bound of then");
        x.bet(0, true, 10);
        x.set(3, 9);
        x.set(2, -1);
        due.is("ifMeasured(0, 0)", x.ifMeasured(0, 0), 190);
        x.measure(0);
        due.is("readerOf(0, 0)", x.readerOf(0, 0), 190);
        x.set(3, 1);
        x.set(2, 0);
        due.is("readerOf(0, 0)", x.readerOf(0, 0), 190);
        isCount(9, 99910);
    }

    private void allReadersAtOnce() {
        fresh("\"The almanac's purse (0 at first ..) pays what readers win\", all four at once");
        isCount(9, 100000);
        x.set(3, 4);
        x.bet(0, true, 1);
        x.bet(1, false, 20);
        x.bet(2, true, 100);
        x.bet(3, false, 3);
        isCount(9, 100000);
        x.measure(1);
        due.is("readerOf(0, 0)", x.readerOf(0, 0), 99);
        due.is("readerOf(1, 0)", x.readerOf(1, 0), 180);
        due.is("readerOf(2, 0)", x.readerOf(2, 0), 0);
        due.is("readerOf(3, 0)", x.readerOf(3, 0), 112);
        isCount(9, 100000 + 1 - 80 + 100 - 12);
    }

    // ---- purses

    private void poorestReader() {
        fresh("\"NOT_POSSIBLE if the reader .. has fewer coins\", a purse of 0");
        due.is("bet(0, true, 100)", x.bet(0, true, 100), 0);
        x.measure(1);
        due.is("readerOf(0, 0)", x.readerOf(0, 0), 0);
        due.is("bet(0, true, 1)", x.bet(0, true, 1), NOT_POSSIBLE);
        due.is("bet(0, true, 0)", x.bet(0, true, 0), BAD_VALUE);
        due.is("takeBack(0)", x.takeBack(0), NONE);
        due.is("ifMeasured(0, 0)", x.ifMeasured(0, 0), 0);
        isCount(9, 100100);
        x.undo();
        x.undo();
        due.is("bet(0, true, 99)", x.bet(0, true, 99), 1);
        x.measure(1);
        due.is("bet(0, true, 2)", x.bet(0, true, 2), NOT_POSSIBLE);
        due.is("bet(0, true, 1)", x.bet(0, true, 1), 0);
    }

    private void richReader() {
        fresh("\"coins: 1 to 1000\", a purse about 1000");
        x.set(3, 9);
        x.bet(0, false, 100);
        x.measure(1);
        due.is("readerOf(0, 0)", x.readerOf(0, 0), 1000);
        due.is("bet(0, true, 1001)", x.bet(0, true, 1001), BAD_VALUE);
        due.is("bet(0, true, 1000)", x.bet(0, true, 1000), 0);
        due.is("takeBack(0)", x.takeBack(0), 1000);
        x.bet(0, false, 1);
        x.measure(0);
        due.is("bet(0, true, 1000) of 999", x.bet(0, true, 1000), NOT_POSSIBLE);
        due.is("bet(0, true, 1001) of 999", x.bet(0, true, 1001), BAD_VALUE);
        due.is("bet(0, false, 999) of 999", x.bet(0, false, 999), 0);
        x.measure(1);
        due.is("readerOf(0, 0)", x.readerOf(0, 0), 9990);
        due.is("bet(0, true, 1001) of more", x.bet(0, true, 1001), BAD_VALUE);
        due.is("bet(0, true, 1000) of more", x.bet(0, true, 1000), 8990);
    }

    private void almanacsPurse() {
        fresh("\"The almanac's purse (0 at first; it can be below 0)\"");
        x.bet(0, true, 1);
        x.measure(0);
        isCount(9, 99999);
        x.bet(0, true, 1);
        x.measure(1);
        isCount(9, 100000);
        x.bet(0, true, 1);
        x.measure(1);
        isCount(9, 100001);
        x.undo();
        isCount(9, 100000);
    }

    private void almanacsPurseFarBelowZero() {
        fresh("\"it can be below 0\", by more than is told more");
        keepBases();
        x.set(3, 9);
        x.set(2, -20);
        int[] purses = {96400, 60400, 24400, -11600, -47600};
        for (int round = 0; round < purses.length; round++) {
            for (int reader = 0; reader < 4; reader++) {
                due.is("coins are left", x.bet(reader, true, round == 0 ? 100 : 1000),
                        round == 0 ? 0 : (round - 1) * 9000);
            }
            x.measure(-40);
            isCount(9, purses[round]);
        }
    }
}
