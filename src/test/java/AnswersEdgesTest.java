/** The promises 4 to 26: the least and the greatest answers, and the scenes in which an answer changes. */
public final class AnswersEdgesTest extends Scene {
    public static void main(String[] args) {
        AnswersEdgesTest test = new AnswersEdgesTest();
        test.acts();
        test.questionsOfDays();
        test.questionsOfTheState();
        test.nextBases();
        test.bestBounds();
        test.bestRates();
        test.ifMeasured();
        test.due.end("AnswersEdgesTest");
    }

    // ---- acts

    private void acts() {
        baseOfMeasuredDays();
        previousBases();
        numbersOfSaints();
        struckSaints();
        takenBack();
    }

    private void baseOfMeasuredDays() {
        fresh("promise 4, \"NOT_POSSIBLE if the day is measured already\"");
        keepBases();
        for (int next = 0; next < 20; next++) {
            for (int day = 0; day < next; day++) {
                due.is("base(" + day + ", 1) with " + next + " measured", x.base(day, 1), NOT_POSSIBLE);
            }
            // The first and the last one that are not.
            due.is("base(" + next + ", 2)", x.base(next, 2), next == 19 ? 1001 : 1000);
            due.is("base(19, 1)", x.base(19, 1), next == 19 ? 1002 : next == 0 ? 1000 : NONE);
            x.measure(0);
        }
        due.is("base(0, 1) in the next year", x.base(0, 1), 1002);
        due.is("base(19, 2) in the next year", x.base(19, 2), 1001);
    }

    private void previousBases() {
        fresh("promise 4, \"Returns the previous one, and 1000 .. NONE if it is so already\"");
        due.is("base(3, 0)", x.base(3, 0), NONE);
        due.is("base(3, 40)", x.base(3, 40), 1000);
        due.is("base(3, 40)", x.base(3, 40), NONE);
        due.is("base(3, -40)", x.base(3, -40), 1040);
        due.is("base(3, -40)", x.base(3, -40), NONE);
        due.is("base(3, 0)", x.base(3, 0), 960);
        isCount(10, 3);
        x.base(3, 7);
        for (int day = 0; day < 20; day++) {
            isBase(day, day == 3 ? 7 : 0);
            isTold(day, day == 3 ? 7 : 0);
        }
    }

    private void numbersOfSaints() {
        fresh("promise 5, \"Returns its number\"");
        for (int number = 0; number < 5; number++) {
            due.is("saint", x.saint(0, 40, 20, 9), number);
        }
        x.strike(2);
        due.is("saint", x.saint(19, -40, -20, 1), 4);
        due.is("saintOf(2, 0) moved up", x.saintOf(2, 0), 0);
        due.is("saintOf(4, 0)", x.saintOf(4, 0), 19);
        due.is("saintOf(4, 1)", x.saintOf(4, 1), 960);
        due.is("saintOf(4, 2)", x.saintOf(4, 2), 980);
        due.is("saintOf(4, 3)", x.saintOf(4, 3), 1);
        due.is("saintOf(3, 1)", x.saintOf(3, 1), 1040);
        due.is("saintOf(3, 2)", x.saintOf(3, 2), 1020);
        due.is("saintOf(3, 3)", x.saintOf(3, 3), 9);
    }

    private void struckSaints() {
        for (int struck = 0; struck < 5; struck++) {
            fresh("promise 6, \"those behind it move up\", saint " + struck);
            for (int saint = 0; saint < 5; saint++) {
                x.saint(saint, saint - 2, 3 * saint - 6, saint + 3);
            }
            for (int left = 4; left >= struck; left--) {
                due.is("strike(" + struck + ")", x.strike(struck), left);
                for (int saint = 0; saint < left; saint++) {
                    int was = saint < struck ? saint : saint + 5 - left;
                    due.is("saintOf(" + saint + ", 0)", x.saintOf(saint, 0), was);
                    due.is("saintOf(" + saint + ", 1)", x.saintOf(saint, 1), 998 + was);
                    due.is("saintOf(" + saint + ", 2)", x.saintOf(saint, 2), 994 + 3 * was);
                    due.is("saintOf(" + saint + ", 3)", x.saintOf(saint, 3), was + 3);
                }
                due.is("saintOf(" + left + ", 0)", x.saintOf(left, 0), UNKNOWN);
                isCount(3, left);
            }
            due.is("strike(" + struck + ")", x.strike(struck), UNKNOWN);
        }
    }

    private void takenBack() {
        fresh("promise 9, \"Returns the coins in the purse then\"");
        x.bet(0, true, 100);
        x.bet(1, false, 1);
        due.is("takeBack(0)", x.takeBack(0), 100);
        due.is("takeBack(0)", x.takeBack(0), NONE);
        due.is("takeBack(1)", x.takeBack(1), 100);
        due.is("takeBack(1)", x.takeBack(1), NONE);
        isCount(10, 4);
        x.measure(0);
        for (int reader = 0; reader < 4; reader++) {
            due.is("readerOf(" + reader + ", 0)", x.readerOf(reader, 0), 100);
            due.is("readerOf(" + reader + ", 3)", x.readerOf(reader, 3), 0);
            due.is("readerOf(" + reader + ", 4)", x.readerOf(reader, 4), 0);
        }
        isCount(9, 100000);
    }

    // ---- questions

    private void questionsOfDays() {
        measuredAndNot();
        leastAndGreatestOfDays();
        leastAndGreatestMeans();
    }

    private void measuredAndNot() {
        fresh("promise 16, \"for a measured day: what was .. NONE if it is not measured\"");
        keepBases();
        for (int next = 0; next < 20; next++) {
            // The latest one that is, and the first one that is not.
            for (int day = Math.max(0, next - 1); day <= next; day++) {
                due.is("dayOf(" + day + ", 2), next " + next, x.dayOf(day, 2), day < next ? 1003 : NONE);
                due.is("dayOf(" + day + ", 3), next " + next, x.dayOf(day, 3), day < next ? 1003 : NONE);
            }
            x.measure(3);
        }
        due.is("dayOf(0, 2) in the next year", x.dayOf(0, 2), NONE);
        due.is("dayOf(19, 3) in the next year", x.dayOf(19, 3), NONE);
    }

    private void leastAndGreatestOfDays() {
        fresh("promises 16 and 17, the least and the greatest");
        keepBases();
        x.base(0, 40);
        x.base(19, -40);
        x.measure(-40);
        int[] first = {1040, 1040, 960, 920, 0};
        for (int what = 0; what < 5; what++) {
            due.is("dayOf(0, " + what + ")", x.dayOf(0, what), first[what]);
        }
        int[] last = {960, 960, NONE, NONE, 1};
        measureText("0*18", 18);
        for (int what = 0; what < 5; what++) {
            due.is("dayOf(19, " + what + ")", x.dayOf(19, what), last[what]);
        }
        x.measure(40);
        due.is("past(0, 0, 0)", x.past(0, 0, 0), 960);
        due.is("past(0, 0, 1)", x.past(0, 0, 1), 920);
        due.is("past(0, 19, 0)", x.past(0, 19, 0), 1040);
        due.is("past(0, 19, 1)", x.past(0, 19, 1), 1080);
        isCount(8, 160);
    }

    private void leastAndGreatestMeans() {
        fresh("promise 18, the least and the greatest");
        keepBases();
        everyBase(x, 40);
        measureText("-40*20", 20);
        everyBase(x, -40);
        measureText("40*20", 20);
        int[] days = {0, 9, 10, 19};
        for (int reach = 0; reach <= 9; reach += 3) {
            x.set(0, reach);
            for (int day : days) {
                for (int way = 0; way < 2; way++) {
                    due.is("mean(0, " + day + ", " + way + ")", x.mean(0, day, way), 1080);
                    due.is("mean(1, " + day + ", " + way + ")", x.mean(1, day, way), 920);
                }
            }
        }
        due.is("by the reach of now", x.count(12), 1009);
        isCount(7, 0);
        isCount(8, 1600);
        due.isFloat("meanMistake()", x.meanMistake(), 80.0f);
    }

    private void questionsOfTheState() {
        countsOfYears();
        meanMistakes();
        betsSoFar();
    }

    private void countsOfYears() {
        fresh("promise 21, \"8 for that of the latest year that ended (NONE without one)\"");
        keepBases();
        isCount(8, NONE);
        measureText("-1*19", 19);
        isCount(7, 19);
        isCount(8, NONE);
        x.measure(2);
        isCount(7, 0);
        isCount(8, 21);
        measureText("0*20", 20);
        isCount(8, 0);
        x.measure(-9);
        x.measure(9);
        isCount(7, 18);
        isCount(8, 0);
        x.undo();
        x.undo();
        x.undo();
        isCount(8, 21);
    }

    private void meanMistakes() {
        fresh("promise 22, \"0.0f without any\"");
        due.isFloat("meanMistake()", x.meanMistake(), 0.0f);
        x.measure(0);
        due.isFloat("meanMistake() of no mistake", x.meanMistake(), 0.0f);
        x.measure(-1);
        due.isFloat("meanMistake()", x.meanMistake(), 0.5f);
        x.measure(0);
        due.isFloat("meanMistake()", x.meanMistake(), 1.0f / 3.0f);
        x.undo();
        x.undo();
        x.undo();
        due.isFloat("meanMistake() behind undo()", x.meanMistake(), 0.0f);
        keepBases();
        measureText("-1*20;2*20;-3*20;4*20;-5*20;7", 101);
        due.isFloat("\"of all days measured so far\", not of the known ones", x.meanMistake(), 307.0f / 101.0f);
    }

    private void betsSoFar() {
        fresh("promise 20, \"3 for bets won so far, 4 for bets lost so far\"");
        for (int day = 1; day <= 25; day++) {
            x.bet(0, day % 5 != 0, 1);
            x.measure(0);
            due.is("readerOf(0, 3) on day " + day, x.readerOf(0, 3), day - day / 5);
            due.is("readerOf(0, 4) on day " + day, x.readerOf(0, 4), day / 5);
        }
        x.undo();
        due.is("readerOf(0, 4) behind undo()", x.readerOf(0, 4), 4);
        due.is("readerOf(0, 1) behind undo()", x.readerOf(0, 1), 1);
    }

    // ---- what would be

    private void nextBases() {
        fresh("promise 23, \"if the days of this year that are not measured came as foretold now\"");
        for (int measured = 0; measured <= 20; measured++) {
            asForetold(measured);
        }
        fresh("promise 23, by the reach and the rate of now");
        x.set(0, 0);
        x.set(1, 100);
        x.measure(-40);
        due.is("nextBase(0)", x.nextBase(0), 960);
        x.set(1, 99);
        due.is("nextBase(0)", x.nextBase(0), 961);
        x.set(1, 0);
        due.is("nextBase(0)", x.nextBase(0), 1000);
        x.set(1, 100);
        x.set(0, 9);
        due.is("nextBase(0) is -40/10", x.nextBase(0), 996);
        due.is("nextBase(9) is -40/19", x.nextBase(9), 998);
        due.is("nextBase(10)", x.nextBase(10), 1000);
        due.is("nextBase(19)", x.nextBase(19), 1000);
    }

    /** The days behind those measured come as foretold: then the bases are what was told. */
    private void asForetold(int measured) {
        again();
        x.set(0, 1);
        x.set(1, 100);
        x.base(18, -33);
        x.base(19, 37);
        x.saint(1, 40, 11, 9);
        for (int day = 0; day < measured; day++) {
            x.measure(day % 2 == 0 ? 17 : -23);
        }
        int[] bases = new int[20];
        for (int day = 0; day < 20; day++) {
            bases[day] = x.nextBase(day);
        }
        for (int day = measured; day < 20; day++) {
            due.is("a day as foretold", x.measure(x.dayOf(day, 1) - 1000), 1000);
        }
        isCount(0, 1);
        for (int day = 0; day < 20; day++) {
            due.is("dayOf(" + day + ", 0), " + measured + " measured", x.dayOf(day, 0), bases[day]);
        }
    }

    /** A year in which day 0 is foretold the first, day 1 the second, and all others 40; none of these is frost. */
    private void boundOf(int bound, int wrong, int first, int second, String warmths) {
        again();
        keepBases();
        everyBase(x, 40);
        x.base(0, first);
        x.base(1, second);
        measureText(warmths + ";1*18", 20);
        due.is("bestBound(0) of " + first + ", " + second + ", " + warmths, x.bestBound(0), 1000 + bound);
        due.is("bestBound(1) of " + first + ", " + second + ", " + warmths, x.bestBound(1), wrong);
    }

    private void bestBounds() {
        fresh("promise 24, \"of several the one nearest to 0, of two the one below it\"");
        boundOf(0, 0, 40, 40, "1;1");
        boundOf(0, 1, 40, 40, "1;0");
        for (int far = 1; far <= 20; far++) {
            // A false alarm above -far, a miss below far: -far and far are the best, alike.
            boundOf(-far, 1, 1 - far, far, "1;0");
            // Frost foretold far: far is the first that sees it.
            boundOf(far, 0, 40, far, "1;0");
            // No frost, foretold 1 - far: -far is the first that is below it.
            boundOf(-far, 0, 1 - far, 40, "1;1");
            // The one nearest to 0 of those from -20 to -far, or from far to 20.
            boundOf(-far, 0, 1 - far, -far, "1;0");
            boundOf(far, 0, -40, far, "0;0");
        }
        fresh("promise 24, \"-20 to 20\"");
        boundOf(20, 0, 40, 20, "1;0");
        boundOf(0, 1, 40, 21, "1;0");
        boundOf(-20, 0, -19, 40, "1;1");
        boundOf(0, 1, -20, 40, "1;1");
        boundOf(0, 1, -40, 40, "1;1");
        boundOf(0, 0, -40, 40, "0;1");
        // Frost at 0 is missed below 0 alone, and none at 1 is an alarm from 1 on.
        boundOf(0, 0, 0, 1, "0;1");
        boundOf(-1, 1, 0, 40, "1;0");
        bestBoundOfTheLatest();
    }

    private void bestBoundOfTheLatest() {
        fresh("promise 24, \"the latest year that ended\", \"NONE if no year ended\"");
        keepBases();
        everyBase(x, 5);
        measureText("0*19", 19);
        due.is("bestBound(0)", x.bestBound(0), NONE);
        due.is("bestBound(1)", x.bestBound(1), NONE);
        x.measure(0);
        due.is("bestBound(0)", x.bestBound(0), 1005);
        due.is("bestBound(1)", x.bestBound(1), 0);
        measureText("0;1*18", 19);
        due.is("bestBound(0), of the year that ended", x.bestBound(0), 1005);
        x.measure(1);
        due.is("bestBound(0)", x.bestBound(0), 1000);
        due.is("bestBound(1)", x.bestBound(1), 1);
        x.undo();
        due.is("bestBound(0) behind undo()", x.bestBound(0), 1005);
        fresh("promise 24, \"by what was foretold\"");
        keepBases();
        everyBase(x, 12);
        x.saint(0, 40, -10, 1);
        measureText("1;0;1*18", 20);
        // Day 1 was foretold 2 by the saint, the others 12 by their bases.
        due.is("bestBound(0)", x.bestBound(0), 1002);
        due.is("bestBound(1)", x.bestBound(1), 0);
        x.strike(0);
        x.set(2, -20);
        everyBase(x, -40);
        due.is("the saints, the bound and the bases of now do not matter", x.bestBound(0), 1002);
        due.is("the saints, the bound and the bases of now do not matter", x.bestBound(1), 0);
    }

    private void rateOf(int rate, int sum, String years) {
        again();
        write(years);
        due.is("measureAll() of " + years, x.measureAll(), 40);
        due.is("bestRate(0) of " + years, x.bestRate(0), rate);
        due.is("bestRate(1) of " + years, x.bestRate(1), sum);
    }

    private void bestRates() {
        fresh("promise 25, \"of several the lowest\"");
        rateOf(0, 0, "0*20;0*20");
        rateOf(0, 800, "0*20;40*20");
        rateOf(0, 800, "40*20;-40*20");
        rateOf(0, 0, "40*20;0*20");
        rateOf(100, 0, "40*20;40*20");
        rateOf(100, 0, "-40*20;-40*20");
        rateOf(98, 0, "40*20;39*20");
        rateOf(98, 0, "-40*20;-39*20");
        rateOf(3, 0, "40*20;1*20");
        rateOf(100, 0, "1*20;1*20");
        rateOf(100, 20, "1*20;2*20");
        rateOf(50, 0, "2*20;1*20");
        bestRateNeedsTwoYears();
        bestRateOfTheBasesOfThen();
        bestRateStaysWithin();
    }

    private void bestRateNeedsTwoYears() {
        fresh("promise 25, \"NONE if fewer than two years are known\"");
        measureText("10*20;5*19", 39);
        due.is("bestRate(0)", x.bestRate(0), NONE);
        due.is("bestRate(1)", x.bestRate(1), NONE);
        x.measure(5);
        due.is("bestRate(0)", x.bestRate(0), 50);
        due.is("bestRate(1)", x.bestRate(1), 0);
        // The bases of the second year were 5 and are 5: no rate mends them.
        measureText("7*19", 19);
        due.is("bestRate(0), of the two that ended", x.bestRate(0), 50);
        x.measure(7);
        due.is("bestRate(0)", x.bestRate(0), 0);
        due.is("bestRate(1)", x.bestRate(1), 40);
        measureText("6*20;6*20;6*20;6*20", 80);
        due.is("bestRate(0) of later years", x.bestRate(0), 0);
        due.is("bestRate(1) of later years", x.bestRate(1), 0);
    }

    private void bestRateOfTheBasesOfThen() {
        fresh("promise 25, \"the bases that the last but one year had when it ended (not what was foretold)\"");
        x.set(0, 0);
        x.base(19, 12);
        x.saint(0, 40, 20, 9);
        x.measure(0);
        x.base(1, -10);
        // Day 1 is foretold 10, and the mistake is 10: by the base of -10 the rate 100 leads to 0.
        measureText("20;20*8;0*9;12", 19);
        everyBase(x, 0);
        measureText("0*20", 20);
        // Days 2 to 9 were foretold 20 rightly: their bases of 0 stay. Day 19 has the base 12 at any rate.
        due.is("bestRate(0)", x.bestRate(0), 100);
        due.is("bestRate(1)", x.bestRate(1), 12);
        everyBase(x, 33);
        x.set(1, 3);
        due.is("the bases and the rate of now do not matter", x.bestRate(0), 100);
        x.set(0, 9);
        // The mean of day 1 is 10/11, of day 19 it is 0: no rate is better than another.
        due.is("the reach of now matters", x.bestRate(0), 0);
        due.is("the reach of now matters", x.bestRate(1), 22);
    }

    private void bestRateStaysWithin() {
        fresh("promise 25, bases between -40 and 40");
        x.set(0, 1);
        everyBase(x, 40);
        x.base(1, -40);
        // The mistakes 80 of day 1 mend the days 0 to 2, whose bases are 40, 40 at most.
        measureText("40*20", 20);
        measureText("40*20", 20);
        due.is("bestRate(1) is what day 1 lacks", x.bestRate(1), 54);
        due.is("bestRate(0)", x.bestRate(0), 100);
    }

    private void ifMeasured() {
        fresh("promise 26, \"what a reader would have in its purse behind the next day\"");
        x.base(19, 1);
        measureText("0*19", 19);
        x.bet(0, true, 100);
        x.bet(1, false, 100);
        x.bet(2, true, 1);
        int[] warmths = {-40, -1, 0, 1, 40};
        for (int warmth : warmths) {
            boolean frost = warmth <= 0;
            due.is("ifMeasured(0, " + warmth + ")", x.ifMeasured(0, warmth), frost ? 300 : 0);
            due.is("ifMeasured(1, " + warmth + ")", x.ifMeasured(1, warmth), frost ? 0 : 200);
            due.is("ifMeasured(2, " + warmth + ")", x.ifMeasured(2, warmth), frost ? 102 : 99);
            due.is("ifMeasured(3, " + warmth + ")", x.ifMeasured(3, warmth), 100);
            isCount(1, 19);
        }
        isCount(10, 4);
        x.measure(0);
        due.is("readerOf(0, 0) behind the last day", x.readerOf(0, 0), 300);
        due.is("readerOf(1, 0)", x.readerOf(1, 0), 0);
        due.is("readerOf(2, 0)", x.readerOf(2, 0), 102);
        due.is("ifMeasured(0, 0) without a bet", x.ifMeasured(0, 0), 300);
        due.is("ifMeasured(1, 1) of none", x.ifMeasured(1, 1), 0);
    }
}
