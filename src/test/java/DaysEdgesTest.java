/** Terms, "DAYS, YEARS", "FORETELLING" and "THE MEAN OF MISTAKES": each sentence just at its ends. */
public final class DaysEdgesTest extends Scene {
    public static void main(String[] args) {
        DaysEdgesTest test = new DaysEdgesTest();
        test.daysAndYears();
        test.foretelling();
        test.meansAndYears();
        test.due.end("DaysEdgesTest");
    }

    private void daysAndYears() {
        lastPromisedCall();
        twentyDays();
        lastDayByText();
        undoOfTheDayThatEndsTheYear();
        coldestAndWarmestDay();
        basesAtFirst();
        settingsAtFirst();
    }

    private void foretelling() {
        foretoldIsClamped();
        clampedBehindAllSaints();
        daysBehindTheFeast();
        feastOnTheLastDay();
        feastNotMeasuredYet();
        feastOfAnOlderYear();
        atMostTheSaintsBound();
        effectsAddUp();
        atMostFiveSaints();
        countsAsItIs();
        greatestMistakes();
    }

    private void meansAndYears() {
        nothingEndsAheadOfTheLastDay();
        reachStaysInTheYear();
        quotientsTowardsZero();
        meanIsRoundedAheadOfTheRate();
        basesStayWithin();
        sameMistakesForAllBases();
        settingsWhenTheYearEnds();
        nothingOfTheNextYearIsMeasured();
        nothingOfAnOlderYearComesBack();
        fourYearsAreKnown();
    }

    // ---- days, years

    private void lastPromisedCall() {
        fresh("\"at most 512 calls\"");
        for (int call = 1; call <= 511; call++) {
            x.measure(call % 2 == 0 ? -40 : 40);
        }
        due.is("keep() as call 512", x.keep(), 511);
        again();
        for (int call = 1; call <= 511; call++) {
            x.set(1, call % 2);
        }
        due.is("undo() as call 512", x.undo(), 3);
        again();
        write("0*20;0*20;0*20;0*20;0*20;0*20;0*20;0*20;0*20;0*20;0*20;9*20");
        for (int call = 61; call <= 510; call++) {
            due.is("measureAll()", x.measureAll(), 240);
        }
        isCount(0, 450 * 12);
    }

    private void twentyDays() {
        fresh("\"A year has 20 days, 0 to 19\"");
        for (int day = 0; day < 20; day++) {
            isCount(0, 0);
            isCount(1, day);
            due.is("measure(" + day + ")", x.measure(day), 1000 + day);
        }
        isCount(0, 1);
        isCount(1, 0);
        // The halves of 3/3 and of 54/3.
        isBase(0, 0);
        isBase(19, 9);
        due.is("dayOf(20, 0)", x.dayOf(20, 0), UNKNOWN);
        due.is("dayOf(-1, 0)", x.dayOf(-1, 0), UNKNOWN);
        due.is("past(0, 0, 0)", x.past(0, 0, 0), 1000);
        due.is("past(0, 19, 0)", x.past(0, 19, 0), 1019);
    }

    private void lastDayByText() {
        String[] texts = {"0*19", "0*20", "0*20;0", "0*20;0*19", "0*20;0*20"};
        int[] days = {19, 20, 21, 39, 40};
        for (int i = 0; i < texts.length; i++) {
            fresh("\"Days pass by measuring\", the year's end in a text");
            measureText(texts[i], days[i]);
            isCount(0, days[i] / 20);
            isCount(1, days[i] % 20);
            isCount(2, days[i] / 20);
        }
    }

    private void undoOfTheDayThatEndsTheYear() {
        fresh("the call that ends the year, and undo()");
        measureText("10*19", 19);
        x.measure(10);
        isBase(0, 5);
        due.is("undo()", x.undo(), 1);
        isCount(0, 0);
        isCount(1, 19);
        isCount(2, 0);
        isBase(0, 0);
        due.is("dayOf(18, 2)", x.dayOf(18, 2), 1010);
        due.is("dayOf(19, 2)", x.dayOf(19, 2), NONE);
        due.is("base(18, 1)", x.base(18, 1), NOT_POSSIBLE);
        due.is("base(19, 1)", x.base(19, 1), 1000);
    }

    private void coldestAndWarmestDay() {
        fresh("\"the warmth of a day is -40 to 40\"");
        due.is("measure(-40)", x.measure(-40), 960);
        due.is("measure(40)", x.measure(40), 1040);
        due.is("measure(-41)", x.measure(-41), BAD_VALUE);
        due.is("measure(41)", x.measure(41), BAD_VALUE);
        due.is("dayOf(0, 2)", x.dayOf(0, 2), 960);
        due.is("dayOf(1, 2)", x.dayOf(1, 2), 1040);
        isCount(1, 2);
    }

    private void basesAtFirst() {
        fresh("\"a base for each day, -40 to 40 (0 at first)\"");
        for (int day = 0; day < 20; day++) {
            isBase(day, 0);
            due.is("base(" + day + ", 41)", x.base(day, 41), BAD_VALUE);
            due.is("base(" + day + ", -41)", x.base(day, -41), BAD_VALUE);
            due.is("base(" + day + ", 40)", x.base(day, 40), 1000);
            due.is("base(" + day + ", -40)", x.base(day, -40), 1040);
            isBase(day, -40);
        }
    }

    private void settingsAtFirst() {
        int[] lowest = {0, 0, -20, 1};
        int[] highest = {9, 100, 20, 9};
        int[] first = {2, 50, 0, 2};
        String[] names = {"0 the reach (0 to 9; 2)", "1 the rate (0 to 100; 50)",
            "2 the bound of frost (-20 to 20; 0)", "3 the odds (1 to 9; 2)"};
        for (int which = 0; which < 4; which++) {
            fresh("\"" + names[which] + "\"");
            isCount(12 + which, 1000 + first[which]);
            due.is("set below", x.set(which, lowest[which] - 1), BAD_VALUE);
            due.is("set above", x.set(which, highest[which] + 1), BAD_VALUE);
            isCount(12 + which, 1000 + first[which]);
            due.is("set lowest", x.set(which, lowest[which]), 1000 + first[which]);
            isCount(12 + which, 1000 + lowest[which]);
            due.is("set highest", x.set(which, highest[which]), 1000 + lowest[which]);
            isCount(12 + which, 1000 + highest[which]);
            isCount(10, 2);
        }
    }

    // ---- foretelling

    private void toldWith(int told, int base, int... effects) {
        again();
        if (base != 0) {
            x.base(1, base);
        }
        for (int effect : effects) {
            x.saint(0, 40, effect, 1);
        }
        x.measure(0);
        isTold(1, told);
        due.is("measure(told)", x.measure(told), 1000);
        isTold(1, told);
    }

    private void foretoldIsClamped() {
        fresh("\"but -40 at least and 40 at most\"");
        toldWith(39, 19, 20);
        toldWith(40, 20, 20);
        toldWith(40, 21, 20);
        toldWith(40, 40, 1);
        toldWith(40, 40, 20, 20, 20, 20, 20);
        toldWith(40, -40, 20, 20, 20, 20, 20);
        toldWith(-39, -19, -20);
        toldWith(-40, -20, -20);
        toldWith(-40, -21, -20);
        toldWith(-40, -40, -1);
        toldWith(-40, -40, -20, -20, -20, -20, -20);
        toldWith(-40, 40, -20, -20, -20, -20, -20);
    }

    private void clampedBehindAllSaints() {
        fresh("\"its base, and what the saints tell for it, but ..\": the sum is kept within, not its parts");
        toldWith(40, 40, 20, -20);
        toldWith(39, 40, 20, -20, -1);
        toldWith(-40, -40, -20, 20);
        toldWith(-39, -40, -20, 20, 1);
        toldWith(21, 30, 20, 20, -20, -20, -9);
        toldWith(-21, -30, -20, -20, 20, 20, 9);
    }

    private void daysBehindTheFeast() {
        fresh("\"the effect is told for the days behind the feast, as many as the length, as far as this year goes\"");
        for (int feast = 0; feast < 19; feast++) {
            for (int length = 1; length <= 9; length++) {
                again();
                keepBases();
                x.saint(feast, 0, 3, length);
                for (int day = 0; day <= feast; day++) {
                    x.measure(0);
                }
                for (int day = 0; day < 20; day++) {
                    isTold(day, day > feast && day <= feast + length ? 3 : 0);
                }
                for (int day = feast + 1; day < 20; day++) {
                    due.is("measure(0) on day " + day, x.measure(0), day <= feast + length ? 997 : 1000);
                }
                for (int day = 0; day < 20; day++) {
                    isTold(day, 0);
                }
            }
        }
    }

    private void feastOnTheLastDay() {
        fresh("\"as far as this year goes\", a feast on day 19");
        keepBases();
        x.saint(19, 40, 20, 9);
        measureText("0*19", 19);
        isTold(19, 0);
        due.is("saintOf(0, 4)", x.saintOf(0, 4), 0);
        due.is("measure(0)", x.measure(0), 1000);
        due.is("saintOf(0, 4)", x.saintOf(0, 4), 0);
        for (int day = 0; day < 20; day++) {
            isTold(day, 0);
        }
    }

    private void feastNotMeasuredYet() {
        fresh("\"if the feast of this year was measured already\"");
        x.saint(4, 40, 7, 9);
        x.saint(0, 40, 2, 1);
        isTold(1, 0);
        due.is("saintOf(1, 4)", x.saintOf(1, 4), 0);
        x.measure(0);
        isTold(0, 0);
        isTold(1, 2);
        due.is("saintOf(1, 4)", x.saintOf(1, 4), 1);
        measureText("0*3", 3);
        isTold(4, 0);
        isTold(5, 0);
        due.is("saintOf(0, 4) on the eve", x.saintOf(0, 4), 0);
        x.measure(0);
        isTold(4, 0);
        isTold(5, 7);
        due.is("saintOf(0, 4)", x.saintOf(0, 4), 1);
        x.undo();
        isTold(5, 0);
        due.is("saintOf(0, 4) behind undo()", x.saintOf(0, 4), 0);
        x.measure(0);
        x.saint(4, 40, 1, 1);
        isTold(5, 8);
        x.saint(5, 40, 1, 1);
        isTold(6, 7);
        due.is("a saint with its feast tomorrow", x.saintOf(3, 4), 0);
    }

    private void feastOfAnOlderYear() {
        fresh("\"the feast of this year\", not of one that ended");
        keepBases();
        x.saint(2, 0, 9, 9);
        // A feast that was cold in each of the years that a row could be kept of.
        measureText("0*20;0*20;0*20;0*20;0*20;0*20;0*20", 140);
        for (int day = 0; day < 2; day++) {
            isTold(3, 0);
            due.is("saintOf(0, 4)", x.saintOf(0, 4), 0);
            x.measure(0);
        }
        isTold(3, 0);
        x.measure(1);
        isTold(3, 0);
        due.is("saintOf(0, 4) by a warm feast", x.saintOf(0, 4), 0);
        measureText("0*17;1*2", 19);
        isTold(3, 0);
        x.measure(0);
        isTold(3, 9);
        due.is("saintOf(0, 4) by a cold feast", x.saintOf(0, 4), 1);
    }

    private void atMostTheSaintsBound() {
        fresh("\"its warmth was at most the saint's bound\"");
        for (int bound = -40; bound <= 40; bound++) {
            for (int warmth = Math.max(-40, bound - 1); warmth <= Math.min(40, bound + 1); warmth++) {
                again();
                x.saint(0, bound, 5, 1);
                x.measure(warmth);
                isTold(1, warmth <= bound ? 5 : 0);
                due.is("saintOf(0, 4)", x.saintOf(0, 4), warmth <= bound ? 1 : 0);
            }
        }
    }

    private void effectsAddUp() {
        fresh("\"The effects of several saints add up\"");
        x.saint(0, 40, 1, 5);
        x.saint(0, 40, 2, 4);
        x.saint(0, 40, 4, 3);
        x.saint(0, 40, 8, 2);
        x.saint(0, 40, 16, 1);
        x.measure(0);
        int[] told = {0, 31, 15, 7, 3, 1, 0};
        for (int day = 0; day < told.length; day++) {
            isTold(day, told[day]);
        }
        x.strike(0);
        isTold(1, 30);
        isTold(5, 0);
        x.strike(3);
        isTold(1, 14);
        x.strike(0);
        x.strike(0);
        x.strike(0);
        isTold(1, 0);
        isCount(3, 0);
    }

    private void atMostFiveSaints() {
        fresh("\"There are at most 5 saints\"");
        for (int number = 0; number < 5; number++) {
            isCount(3, number);
            due.is("saint", x.saint(19, -40, number, 1), number);
        }
        due.is("a sixth saint", x.saint(19, -40, 0, 1), FULL);
        isCount(3, 5);
        due.is("strike(0)", x.strike(0), 4);
        due.is("a fifth saint again", x.saint(18, 40, 0, 9), 4);
        due.is("saintOf(4, 0)", x.saintOf(4, 0), 18);
        due.is("a sixth saint", x.saint(19, -40, 0, 1), FULL);
    }

    private void countsAsItIs() {
        fresh("\"A foretelling counts as it is when its day is measured\"");
        x.base(1, 5);
        x.saint(0, 40, 3, 9);
        x.measure(0);
        due.is("measure(10)", x.measure(10), 1002);
        due.is("base(1, 9)", x.base(1, 9), NOT_POSSIBLE);
        x.saint(0, 40, 20, 9);
        isTold(1, 8);
        isTold(2, 23);
        x.strike(0);
        x.strike(0);
        isTold(1, 8);
        isTold(2, 0);
        due.is("dayOf(1, 3)", x.dayOf(1, 3), 1002);
        x.set(2, 20);
        isCount(4, 1);
        isCount(6, 0);
        isCount(7, 2);
        measureText("0*18", 18);
        due.is("past(0, 1, 1)", x.past(0, 1, 1), 1002);
        isCount(8, 2);
    }

    private void greatestMistakes() {
        fresh("\"The mistake of a day that is measured is its warmth less what was foretold for it\"");
        x.base(0, 40);
        x.base(1, -40);
        due.is("measure(-40)", x.measure(-40), 920);
        due.is("measure(40)", x.measure(40), 1080);
        due.is("dayOf(0, 3)", x.dayOf(0, 3), 920);
        due.is("dayOf(1, 3)", x.dayOf(1, 3), 1080);
        isCount(7, 160);
    }

    // ---- the mean of mistakes

    private void nothingEndsAheadOfTheLastDay() {
        fresh("\"When the last day of a year is measured, the year ends\"");
        x.set(1, 100);
        for (int day = 0; day < 19; day++) {
            x.measure(8);
            isBase(0, 0);
            isCount(2, 0);
            isCount(8, NONE);
            due.is("past(0, 0, 0)", x.past(0, 0, 0), UNKNOWN);
        }
        x.measure(8);
        isBase(0, 8);
        isBase(19, 8);
        isCount(2, 1);
        isCount(8, 160);
        due.is("past(0, 0, 0)", x.past(0, 0, 0), 1008);
    }

    /** A year with one mistake: on each day it is among as many as the reach lets in. */
    private void oneMistake(int at, int reach) {
        again();
        x.set(0, reach);
        x.set(1, 100);
        for (int day = 0; day < 20; day++) {
            x.measure(day == at ? 40 : 0);
        }
        for (int day = 0; day < 20; day++) {
            int among = 1 + Math.min(day, reach) + Math.min(19 - day, reach);
            int mean = Math.abs(day - at) <= reach ? 40 / among : 0;
            due.is("mean(0, " + day + ", 0) with reach " + reach, x.mean(0, day, 0), 1000 + mean);
            due.is("mean(0, " + day + ", 1) with reach " + reach, x.mean(0, day, 1), 1000 + mean);
            isBase(day, mean);
        }
    }

    private void reachStaysInTheYear() {
        fresh("\"at most the reach away (not beyond the ends of the year)\"");
        for (int reach = 0; reach <= 9; reach++) {
            for (int at = 0; at < 20; at++) {
                oneMistake(at, reach);
            }
        }
        fresh("\"at most the reach away\", the widest");
        x.set(0, 9);
        x.set(1, 100);
        // 40 on day 0 and -40 on day 19: each is seen by ten days, and none sees both.
        measureText("40;0*18;-40", 20);
        int[] bases = {4, 3, 3, 3, 2, 2, 2, 2, 2, 2, -2, -2, -2, -2, -2, -2, -3, -3, -3, -4};
        for (int day = 0; day < 20; day++) {
            isBase(day, bases[day]);
        }
    }

    private void meanOf(int mean, String text) {
        again();
        x.set(0, 1);
        measureText(text, 20);
        due.is("mean(0, 1, 0) of " + text, x.mean(0, 1, 0), 1000 + mean);
        due.is("mean(0, 1, 1) of " + text, x.mean(0, 1, 1), 1000 + mean);
    }

    private void baseBehind(int base, int from, int mistake, int rate) {
        again();
        x.set(0, 0);
        x.set(1, rate);
        if (from != 0) {
            x.base(0, from);
        }
        x.measure(from + mistake);
        due.is("nextBase(0)", x.nextBase(0), 1000 + base);
        measureText("0*19", 19);
        isBase(0, base);
    }

    private void quotientsTowardsZero() {
        fresh("\"All quotients are rounded towards 0\"");
        meanOf(0, "0;2;0*18");
        meanOf(1, "0;3;0*18");
        meanOf(1, "0;5;0*18");
        meanOf(0, "0;-2;0*18");
        meanOf(-1, "0;-3;0*18");
        meanOf(-1, "0;-5;0*18");
        meanOf(-2, "0;-6;0*18");
        meanOf(0, "4;-3;1;0*17");
        baseBehind(1, 0, 3, 50);
        baseBehind(-1, 0, -3, 50);
        baseBehind(0, 0, 1, 99);
        baseBehind(0, 0, -1, 99);
        baseBehind(1, 0, 1, 100);
        baseBehind(-1, 0, -1, 100);
        // The quotient is rounded, not the base that it is added to.
        baseBehind(9, 10, -3, 50);
        baseBehind(-9, -10, 3, 50);
        baseBehind(0, 1, -3, 50);
        baseBehind(0, -1, 3, 50);
        baseBehind(5, 5, 30, 0);
        baseBehind(35, 5, 30, 100);
    }

    private void meanIsRoundedAheadOfTheRate() {
        fresh("\"the mean times the rate, divided by 100\": the mean is rounded before");
        x.set(0, 1);
        x.set(1, 60);
        // Day 1: 5/3 is 1, and 60 hundredths of 1 are 0, where those of 5/3 would be 1.
        measureText("0;5;0*18", 20);
        isBase(1, 0);
        // Day 0: 5/2 is 2, and 60 hundredths of 2 are 1.
        isBase(0, 1);
    }

    private void nextBaseOf(int base, int from, int neighbour) {
        again();
        x.set(0, 1);
        x.set(1, 100);
        x.base(0, from);
        x.measure(from);
        // Day 0 is no mistake, and gets the half of day 1's.
        x.measure(neighbour);
        due.is("nextBase(0) of " + from, x.nextBase(0), 1000 + base);
        measureText("0*18", 18);
        isBase(0, base);
    }

    private void basesStayWithin() {
        fresh("\"The base of the day becomes .. but -40 at least and 40 at most\"");
        nextBaseOf(39, 38, 2);
        nextBaseOf(40, 39, 2);
        nextBaseOf(40, 40, 2);
        nextBaseOf(40, 40, 40);
        nextBaseOf(40, 20, 40);
        nextBaseOf(40, 21, 40);
        nextBaseOf(-39, -38, -2);
        nextBaseOf(-40, -39, -2);
        nextBaseOf(-40, -40, -2);
        nextBaseOf(-40, -40, -40);
        nextBaseOf(-40, -20, -40);
        nextBaseOf(-40, -21, -40);
        nextBaseOf(39, 40, -2);
        nextBaseOf(-39, -40, 2);
    }

    private void sameMistakesForAllBases() {
        fresh("\"All bases are found from the same mistakes\"");
        x.set(0, 1);
        x.set(1, 100);
        measureText("9;0*18;9", 20);
        int[] bases = {4, 3, 0, 0, 0, 0, 0, 0, 0, 0, 0, 0, 0, 0, 0, 0, 0, 0, 3, 4};
        for (int day = 0; day < 20; day++) {
            isBase(day, bases[day]);
            due.is("past(0, " + day + ", 1)", x.past(0, day, 1), day % 19 == 0 ? 1009 : 1000);
        }
    }

    private void settingsWhenTheYearEnds() {
        fresh("\"When the last day of a year is measured\": by the reach and the rate of then");
        measureText("8*19", 19);
        x.set(0, 0);
        x.set(1, 25);
        x.measure(-8);
        isBase(18, 2);
        isBase(19, -2);
        x.set(1, 100);
        x.set(0, 9);
        isBase(18, 2);
        isBase(19, -2);
    }

    private void nothingOfTheNextYearIsMeasured() {
        fresh("\"Then the next year begins; nothing of it is measured\"");
        x.saint(0, 40, 5, 9);
        x.saint(18, 40, 5, 9);
        measureText("3*20", 20);
        isCount(1, 0);
        isCount(7, 0);
        // Ten days without a saint are off by 3, ten with one by -2.
        isCount(8, 50);
        due.is("saintOf(0, 4)", x.saintOf(0, 4), 0);
        due.is("saintOf(1, 4)", x.saintOf(1, 4), 0);
        for (int day = 0; day < 20; day++) {
            due.is("dayOf(" + day + ", 2)", x.dayOf(day, 2), NONE);
            due.is("dayOf(" + day + ", 3)", x.dayOf(day, 3), NONE);
            due.is("what is foretold is the base", x.dayOf(day, 1), x.dayOf(day, 0));
            due.is("nextBase is the base", x.nextBase(day), x.dayOf(day, 0));
        }
        for (int day = 0; day < 20; day++) {
            due.is("base(" + day + ", 40) is possible", x.base(day, 40) >= 960 ? 1 : 0, 1);
        }
    }

    private void nothingOfAnOlderYearComesBack() {
        fresh("\"nothing of it is measured\", also behind more years than are known");
        keepBases();
        for (int year = 1; year <= 9; year++) {
            measureText("-9*5;8*15", 20);
            isCount(7, 0);
            isCount(8, 165);
            x.set(1, 100);
            for (int day = 0; day < 20; day += 6) {
                due.is("nextBase(" + day + ") behind " + year, x.nextBase(day), 1000);
                due.is("dayOf(" + day + ", 2) behind " + year, x.dayOf(day, 2), NONE);
                due.is("dayOf(" + day + ", 3) behind " + year, x.dayOf(day, 3), NONE);
            }
            x.measure(10);
            isCount(7, 10);
            due.is("nextBase(0) is 10/3, behind " + year, x.nextBase(0), 1003);
            due.is("nextBase(19) behind " + year, x.nextBase(19), 1000);
            x.undo();
            x.undo();
        }
    }

    private void fourYearsAreKnown() {
        fresh("\"Of years that ended at most the latest 4 are known, with their warmths and mistakes\"");
        keepBases();
        for (int ended = 0; ended <= 6; ended++) {
            isCount(0, ended);
            isCount(2, Math.min(4, ended));
            for (int ago = 0; ago <= 5; ago++) {
                boolean known = ago < ended && ago < 4;
                int warmth = ended - ago;
                due.is("past(" + ago + ", 0, 0)", x.past(ago, 0, 0), known ? 1000 + warmth : UNKNOWN);
                due.is("past(" + ago + ", 19, 1)", x.past(ago, 19, 1), known ? 1000 - warmth : UNKNOWN);
                due.is("mean(" + ago + ", 0, 0)", x.mean(ago, 0, 0), known ? 1000 + warmth / 3 : UNKNOWN);
                due.is("mean(" + ago + ", 19, 1)", x.mean(ago, 19, 1), known ? 1000 - warmth / 3 : UNKNOWN);
            }
            // The year of now is not among them, whatever of it is measured.
            measureText((ended + 1) + ";0*18;-" + (ended + 1), 20);
        }
        measureText("9*19", 19);
        isCount(2, 4);
        due.is("past(0, 0, 0)", x.past(0, 0, 0), 1007);
        due.is("past(3, 0, 0)", x.past(3, 0, 0), 1004);
    }
}
