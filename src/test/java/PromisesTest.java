import java.util.List;
import java.util.function.Consumer;

/** For each promise of the document, answers that were worked out by hand. */
public final class PromisesTest extends Scene {
    public static void main(String[] args) {
        PromisesTest test = new PromisesTest();
        test.days();
        test.betsTextsAndHistory();
        test.whatIsTold();
        test.whatWouldBe();
        test.due.end("PromisesTest");
    }

    private void days() {
        newObject();
        measure();
        measureEndsYears();
        measureWithSaints();
        measureCountsFrosts();
        measurePaysBets();
        measureAll();
        base();
        saint();
        strike();
        set();
    }

    private void betsTextsAndHistory() {
        bet();
        takeBack();
        type();
        clearText();
        fault();
        undo();
        undoBringsAllBack();
        keep();
        restore();
    }

    private void whatIsTold() {
        dayOf();
        past();
        mean();
        saintOf();
        readerOf();
        count();
        meanMistake();
    }

    private void whatWouldBe() {
        nextBase();
        bestBound();
        bestRate();
        ifMeasured();
    }

    // ---- helpers

    private void faultOf(String text, int wanted) {
        again();
        write(text);
        due.is("fault() of " + text, x.fault(), wanted);
        due.is("its length", x.count(11), text.length());
        int before = x.keep();
        if (wanted != NONE) {
            int states = x.count(10);
            due.is("measureAll() of " + text, x.measureAll(), -100 - wanted);
            due.is("states behind it", x.count(10), states);
            due.is("days behind it", x.keep(), before);
        }
    }

    /** Three of these runs of calls change all that a state holds. */
    private static Consumer<MistakeAlmanac> changes(int how) {
        return changed(how).andThen(changed(how + 1)).andThen(changed(how + 2));
    }

    private static Consumer<MistakeAlmanac> changed(int how) {
        return x -> {
            x.bet(how % 4, how % 3 == 0, 5);
            x.bet((how + 1) % 4, how % 3 != 0, 3);
            x.set(0, how % 9);
            x.set(1, how + 7);
            x.set(2, how % 5);
            x.set(3, how % 9 + 1);
            x.clearText();
            type(x, "-" + (how + 1) + "*9;5*12;7;-3*2");
            x.measureAll();
            x.bet((how + 2) % 4, true, 4);
            x.base(19, how);
            x.strike(0);
            x.saint(how % 5, 9, how - 9, 9);
            x.saint(2, how, 9, 3);
        };
    }

    // ---- the promises

    private void newObject() {
        fresh("promise 1");
        int[] counts = {0, 0, 0, 0, 0, 0, 0, 0, NONE, 100000, 0, 0, 1002, 1050, 1000, 1002};
        for (int what = 0; what < counts.length; what++) {
            due.is("count(" + what + ")", x.count(what), counts[what]);
        }
        for (int day = 0; day < 20; day++) {
            due.is("dayOf(" + day + ", 0)", x.dayOf(day, 0), 1000);
            due.is("dayOf(" + day + ", 1)", x.dayOf(day, 1), 1000);
            due.is("dayOf(" + day + ", 2)", x.dayOf(day, 2), NONE);
            due.is("nextBase(" + day + ")", x.nextBase(day), 1000);
        }
        for (int reader = 0; reader < 4; reader++) {
            due.is("readerOf(" + reader + ", 0)", x.readerOf(reader, 0), 100);
            for (int what = 1; what <= 4; what++) {
                due.is("readerOf(" + reader + ", " + what + ")", x.readerOf(reader, what), 0);
            }
        }
        due.is("saintOf(0, 0)", x.saintOf(0, 0), UNKNOWN);
        due.is("undo()", x.undo(), NONE);
        due.is("restore()", x.restore(), NONE);
        MistakeAlmanac other = new MistakeAlmanac();
        other.set(0, 9);
        other.type('7');
        other.measure(9);
        due.is("count(1) beside another almanac", x.count(1), 0);
        due.is("count(11) beside another almanac", x.count(11), 0);
        due.is("count(12) beside another almanac", x.count(12), 1002);
    }

    private void measure() {
        fresh("promise 2");
        due.is("measure(41)", x.measure(41), BAD_VALUE);
        due.is("measure(-41)", x.measure(-41), BAD_VALUE);
        due.is("measure(MAX)", x.measure(Integer.MAX_VALUE), BAD_VALUE);
        due.is("measure(MIN)", x.measure(Integer.MIN_VALUE), BAD_VALUE);
        due.is("count(1)", x.count(1), 0);
        due.is("count(10)", x.count(10), 0);
        x.base(0, 5);
        x.base(1, 40);
        x.base(2, -40);
        due.is("measure(3)", x.measure(3), 998);
        due.is("measure(-40)", x.measure(-40), 920);
        due.is("measure(40)", x.measure(40), 1080);
        due.is("count(1)", x.count(1), 3);
        due.is("count(10)", x.count(10), 4);
        due.is("dayOf(1, 2)", x.dayOf(1, 2), 960);
    }

    private void measureEndsYears() {
        fresh("promise 2, the year's end");
        // Reach 2: of the mistake 10 on day 0, the days 0 to 2 have 10/3, 10/4, 10/5; the half is 1.
        measureText("10;0*18", 19);
        due.is("count(0)", x.count(0), 0);
        due.is("count(1)", x.count(1), 19);
        due.is("measure(-10)", x.measure(-10), 990);
        due.is("count(0)", x.count(0), 1);
        due.is("count(1)", x.count(1), 0);
        int[] bases = {1001, 1001, 1001, 1000, 1000, 1000, 1000, 1000, 1000, 1000,
            1000, 1000, 1000, 1000, 1000, 1000, 1000, 999, 999, 999};
        for (int day = 0; day < 20; day++) {
            due.is("dayOf(" + day + ", 0)", x.dayOf(day, 0), bases[day]);
            due.is("dayOf(" + day + ", 2)", x.dayOf(day, 2), NONE);
        }
        due.is("the new year foretells by the new base", x.measure(0), 999);

        fresh("promise 2, the bases stay between -40 and 40");
        x.set(0, 0);
        x.set(1, 100);
        x.base(1, 30);
        x.base(2, -30);
        // Beyond -40 and 40 only where the saint lowers or raises what is foretold.
        x.saint(0, 40, -20, 1);
        measureText("0;40;0*18", 20);
        due.is("dayOf(1, 0) is 30 and 30, but 40", x.dayOf(1, 0), 1040);
        due.is("dayOf(2, 0) is -30 and 30", x.dayOf(2, 0), 1000);
        x.saint(1, 40, 20, 1);
        x.base(2, -30);
        measureText("0*2;-40;0*17", 20);
        due.is("dayOf(2, 0) is -30 and -30, but -40", x.dayOf(2, 0), 960);

        fresh("promise 2, four years are known");
        x.set(1, 0);
        for (int year = 1; year <= 6; year++) {
            measureText(year + "*20", 20);
            due.is("count(0)", x.count(0), year);
            due.is("count(2)", x.count(2), Math.min(4, year));
        }
        due.is("count(7) of a year without days", x.count(7), 0);
        due.is("nextBase(0) of a year without days", x.nextBase(0), 1000);
        x.set(1, 100);
        due.is("nextBase(0) of a year without days", x.nextBase(0), 1000);
        x.measure(-10);
        due.is("nextBase(0) is -10/3", x.nextBase(0), 997);
        due.is("count(7)", x.count(7), 10);
        for (int ago = 0; ago < 4; ago++) {
            due.is("past(" + ago + ", 7, 0)", x.past(ago, 7, 0), 1006 - ago);
        }
    }

    private void measureWithSaints() {
        fresh("promise 2, saints");
        due.is("saint", x.saint(2, 5, 7, 3), 0);
        measureText("0*2;5", 3);
        int[] told = {1000, 1000, 1000, 1007, 1007, 1007, 1000};
        for (int day = 0; day < told.length; day++) {
            due.is("dayOf(" + day + ", 1)", x.dayOf(day, 1), told[day]);
        }
        due.is("another saint", x.saint(2, 5, -9, 1), 1);
        due.is("effects add up", x.dayOf(3, 1), 998);
        due.is("measure(0)", x.measure(0), 1002);
        due.is("what was foretold stays", x.strike(1), 1);
        due.is("dayOf(3, 1)", x.dayOf(3, 1), 998);

        fresh("promise 2, a feast that was too warm");
        x.saint(2, 5, 7, 3);
        measureText("0*2;6", 3);
        due.is("dayOf(3, 1)", x.dayOf(3, 1), 1000);
        due.is("measure(1)", x.measure(1), 1001);
        due.is("a saint that comes behind its feast tells", x.saint(2, 6, -4, 9), 1);
        due.is("dayOf(3, 1) was foretold", x.dayOf(3, 1), 1000);
        due.is("dayOf(4, 1)", x.dayOf(4, 1), 996);

        fresh("promise 2, a saint does not tell into the next year");
        x.set(1, 0);
        x.saint(18, 40, 5, 9);
        measureText("0*19", 19);
        due.is("measure(0)", x.measure(0), 995);
        due.is("dayOf(0, 1)", x.dayOf(0, 1), 1000);
        due.is("measure(0)", x.measure(0), 1000);

        fresh("promise 2, what is foretold stays between -40 and 40");
        x.base(1, 30);
        x.base(2, -30);
        x.saint(0, 40, 20, 1);
        x.measure(0);
        due.is("dayOf(1, 1)", x.dayOf(1, 1), 1040);
        due.is("measure(40)", x.measure(40), 1000);
        x.saint(0, 40, -20, 2);
        due.is("dayOf(2, 1)", x.dayOf(2, 1), 960);
        due.is("measure(-40)", x.measure(-40), 1000);
    }

    private void measureCountsFrosts() {
        fresh("promise 2, frosts");
        x.set(2, 3);
        x.base(0, 3);
        x.base(1, 3);
        x.base(2, 4);
        x.base(3, 4);
        x.measure(0);
        due.is("a hit", x.count(4), 1);
        x.measure(1);
        due.is("a false alarm", x.count(6), 1);
        x.measure(0);
        due.is("a miss", x.count(5), 1);
        x.measure(1);
        due.is("hits", x.count(4), 1);
        due.is("misses", x.count(5), 1);
        due.is("false alarms", x.count(6), 1);
        measureText("1*16;0*2", 18);
        due.is("hits go on in the next year", x.count(4), 3);
        due.is("false alarms go on", x.count(6), 17);
    }

    private void measurePaysBets() {
        fresh("promise 2, bets");
        x.set(3, 5);
        x.bet(0, true, 10);
        x.bet(1, false, 20);
        // Foretold is frost: who is right against it gets the odds.
        x.measure(1);
        due.is("readerOf(0, 0) lost 10", x.readerOf(0, 0), 90);
        due.is("readerOf(0, 4)", x.readerOf(0, 4), 1);
        due.is("readerOf(0, 3)", x.readerOf(0, 3), 0);
        due.is("readerOf(1, 0) won 5 times 20", x.readerOf(1, 0), 200);
        due.is("readerOf(1, 3)", x.readerOf(1, 3), 1);
        due.is("count(9)", x.count(9), 99910);
        due.is("the bet is over", x.readerOf(1, 1), 0);
        x.bet(2, true, 30);
        x.bet(3, false, 40);
        x.measure(0);
        due.is("readerOf(2, 0) won once 30", x.readerOf(2, 0), 130);
        due.is("readerOf(3, 0) lost 40", x.readerOf(3, 0), 60);
        due.is("count(9)", x.count(9), 99920);
        x.base(2, 1);
        x.bet(0, true, 90);
        x.bet(1, false, 200);
        x.measure(-40);
        due.is("readerOf(0, 0) won 5 times 90", x.readerOf(0, 0), 540);
        due.is("readerOf(1, 0) lost all", x.readerOf(1, 0), 0);
        due.is("count(9)", x.count(9), 99670);
        due.is("a bet is for one day", x.measure(-40), 960);
        due.is("readerOf(0, 0)", x.readerOf(0, 0), 540);
        due.is("readerOf(0, 2)", x.readerOf(0, 2), 0);
    }

    private void measureAll() {
        fresh("promise 3");
        due.is("measureAll() of the empty text", x.measureAll(), -100);
        write("5;41");
        due.is("measureAll() of 5;41", x.measureAll(), -103);
        due.is("count(1)", x.count(1), 0);
        due.is("count(10)", x.count(10), 0);
        x.bet(0, true, 10);
        x.bet(1, false, 10);
        measureText("-3*2;7", 3);
        due.is("dayOf(0, 2)", x.dayOf(0, 2), 997);
        due.is("dayOf(1, 2)", x.dayOf(1, 2), 997);
        due.is("dayOf(2, 2)", x.dayOf(2, 2), 1007);
        due.is("dayOf(3, 2)", x.dayOf(3, 2), NONE);
        due.is("the bet is for the first day", x.readerOf(0, 0), 110);
        due.is("the other one too", x.readerOf(1, 0), 90);
        due.is("the text stays", x.count(11), 6);
        due.is("count(10)", x.count(10), 3);
        due.is("undo() takes it all back", x.undo(), 2);
        due.is("count(1)", x.count(1), 0);
        due.is("the text stays", x.count(11), 6);
        // A text of 60 characters, to its last one.
        measureText("9*20;9*20;9*20;9*20;9*20;9*20;9*20;9*20;9*20;9*20;9*20;40*19", 239);
        due.is("count(0)", x.count(0), 11);
        due.is("count(1)", x.count(1), 19);
        due.is("dayOf(18, 2)", x.dayOf(18, 2), 1040);
    }

    private void base() {
        fresh("promise 4");
        due.is("base(-1, 41)", x.base(-1, 41), UNKNOWN);
        due.is("base(20, 0)", x.base(20, 0), UNKNOWN);
        due.is("base(0, 41)", x.base(0, 41), BAD_VALUE);
        due.is("base(19, -41)", x.base(19, -41), BAD_VALUE);
        due.is("base(0, 0)", x.base(0, 0), NONE);
        due.is("count(10)", x.count(10), 0);
        due.is("base(0, -40)", x.base(0, -40), 1000);
        due.is("base(0, 40)", x.base(0, 40), 960);
        due.is("base(0, 40)", x.base(0, 40), NONE);
        due.is("base(19, 1)", x.base(19, 1), 1000);
        due.is("count(10)", x.count(10), 3);
        due.is("dayOf(0, 0)", x.dayOf(0, 0), 1040);
        due.is("dayOf(19, 0)", x.dayOf(19, 0), 1001);
        x.measure(0);
        due.is("base(0, 40) of a measured day", x.base(0, 40), NOT_POSSIBLE);
        due.is("base(0, 41) of a measured day", x.base(0, 41), BAD_VALUE);
        due.is("base(1, 3)", x.base(1, 3), 1000);
        due.is("dayOf(0, 0)", x.dayOf(0, 0), 1040);
    }

    private void saint() {
        fresh("promise 5");
        due.is("saint(20, 41, 0, 1)", x.saint(20, 41, 0, 1), UNKNOWN);
        due.is("saint(-1, 0, 0, 1)", x.saint(-1, 0, 0, 1), UNKNOWN);
        due.is("saint(0, 41, 0, 1)", x.saint(0, 41, 0, 1), BAD_VALUE);
        due.is("saint(0, -41, 0, 1)", x.saint(0, -41, 0, 1), BAD_VALUE);
        due.is("saint(0, 0, 21, 1)", x.saint(0, 0, 21, 1), BAD_VALUE);
        due.is("saint(0, 0, -21, 1)", x.saint(0, 0, -21, 1), BAD_VALUE);
        due.is("saint(0, 0, 0, 0)", x.saint(0, 0, 0, 0), BAD_VALUE);
        due.is("saint(0, 0, 0, 10)", x.saint(0, 0, 0, 10), BAD_VALUE);
        due.is("count(10)", x.count(10), 0);
        due.is("saint(0, -40, -20, 1)", x.saint(0, -40, -20, 1), 0);
        due.is("saint(19, 40, 20, 9)", x.saint(19, 40, 20, 9), 1);
        due.is("saint(3, 0, 0, 4)", x.saint(3, 0, 0, 4), 2);
        due.is("saint(3, 0, 0, 4)", x.saint(3, 0, 0, 4), 3);
        due.is("saint(4, 0, 0, 4)", x.saint(4, 0, 0, 4), 4);
        due.is("count(10)", x.count(10), 4);
        due.is("saint(20, 0, 0, 4)", x.saint(20, 0, 0, 4), UNKNOWN);
        due.is("saint(5, 0, 0, 10)", x.saint(5, 0, 0, 10), BAD_VALUE);
        due.is("saint(5, 0, 0, 4)", x.saint(5, 0, 0, 4), FULL);
        due.is("count(3)", x.count(3), 5);
    }

    private void strike() {
        fresh("promise 6");
        due.is("strike(0)", x.strike(0), UNKNOWN);
        for (int i = 0; i < 5; i++) {
            x.saint(i, 10 + i, i, 1 + i);
        }
        due.is("strike(5)", x.strike(5), UNKNOWN);
        due.is("strike(-1)", x.strike(-1), UNKNOWN);
        due.is("strike(1)", x.strike(1), 4);
        int[] feasts = {0, 2, 3, 4};
        for (int i = 0; i < 4; i++) {
            due.is("saintOf(" + i + ", 0)", x.saintOf(i, 0), feasts[i]);
            due.is("saintOf(" + i + ", 1)", x.saintOf(i, 1), 1010 + feasts[i]);
            due.is("saintOf(" + i + ", 2)", x.saintOf(i, 2), 1000 + feasts[i]);
            due.is("saintOf(" + i + ", 3)", x.saintOf(i, 3), 1 + feasts[i]);
        }
        due.is("saintOf(4, 0)", x.saintOf(4, 0), UNKNOWN);
        due.is("strike(4)", x.strike(4), UNKNOWN);
        due.is("strike(3)", x.strike(3), 3);
        due.is("strike(0)", x.strike(0), 2);
        due.is("saintOf(0, 0)", x.saintOf(0, 0), 2);
        due.is("undo()", x.undo(), 3);
        due.is("saintOf(0, 0)", x.saintOf(0, 0), 0);
        x.undo();
        x.undo();
        x.undo();
        due.is("strike(2)", x.strike(2), 3);
        due.is("count(10)", x.count(10), 1);
    }

    private void set() {
        fresh("promise 7");
        int[] lowest = {0, 0, -20, 1};
        int[] highest = {9, 100, 20, 9};
        int[] first = {2, 50, 0, 2};
        for (int which = 0; which < 4; which++) {
            String call = "set(" + which + ", ..)";
            due.is(call + " too low", x.set(which, lowest[which] - 1), BAD_VALUE);
            due.is(call + " too high", x.set(which, highest[which] + 1), BAD_VALUE);
            due.is(call + " as it is", x.set(which, first[which]), NONE);
            due.is(call + " lowest", x.set(which, lowest[which]), first[which] + 1000);
            due.is(call + " highest", x.set(which, highest[which]), lowest[which] + 1000);
            due.is(call + " as it is", x.set(which, highest[which]), NONE);
            due.is("count", x.count(12 + which), highest[which] + 1000);
            due.is("states", x.count(10), Math.min(4, 2 * which + 2));
        }
        due.is("set(4, 1)", x.set(4, 1), BAD_VALUE);
        due.is("set(-1, 1)", x.set(-1, 1), BAD_VALUE);
    }

    private void bet() {
        fresh("promise 8");
        due.is("bet(4, true, 0)", x.bet(4, true, 0), UNKNOWN);
        due.is("bet(-1, true, 1)", x.bet(-1, true, 1), UNKNOWN);
        due.is("bet(0, true, 0)", x.bet(0, true, 0), BAD_VALUE);
        due.is("bet(0, true, 1001)", x.bet(0, true, 1001), BAD_VALUE);
        due.is("bet(0, true, 101)", x.bet(0, true, 101), NOT_POSSIBLE);
        due.is("bet(0, true, 1000)", x.bet(0, true, 1000), NOT_POSSIBLE);
        due.is("count(10)", x.count(10), 0);
        due.is("bet(0, true, 1)", x.bet(0, true, 1), 99);
        due.is("bet(0, true, 1)", x.bet(0, true, 1), NOT_POSSIBLE);
        due.is("bet(0, true, 0)", x.bet(0, true, 0), BAD_VALUE);
        due.is("bet(3, false, 100)", x.bet(3, false, 100), 0);
        due.is("count(10)", x.count(10), 2);
        due.is("readerOf(0, 1)", x.readerOf(0, 1), 1);
        due.is("readerOf(0, 2)", x.readerOf(0, 2), 1);
        due.is("readerOf(3, 1)", x.readerOf(3, 1), 100);
        due.is("readerOf(3, 2)", x.readerOf(3, 2), 0);
        due.is("the almanac's purse waits", x.count(9), 100000);
        x.set(3, 9);
        x.measure(40);
        due.is("readerOf(3, 0)", x.readerOf(3, 0), 1000);
        due.is("bet(3, true, 1000)", x.bet(3, true, 1000), 0);
    }

    private void takeBack() {
        fresh("promise 9");
        due.is("takeBack(4)", x.takeBack(4), UNKNOWN);
        due.is("takeBack(-1)", x.takeBack(-1), UNKNOWN);
        due.is("takeBack(1)", x.takeBack(1), NONE);
        due.is("count(10)", x.count(10), 0);
        x.bet(1, true, 30);
        due.is("takeBack(0)", x.takeBack(0), NONE);
        due.is("takeBack(1)", x.takeBack(1), 100);
        due.is("count(10)", x.count(10), 2);
        due.is("readerOf(1, 1)", x.readerOf(1, 1), 0);
        due.is("readerOf(1, 2)", x.readerOf(1, 2), 0);
        due.is("takeBack(1)", x.takeBack(1), NONE);
        x.measure(0);
        due.is("readerOf(1, 0)", x.readerOf(1, 0), 100);
        due.is("readerOf(1, 3)", x.readerOf(1, 3), 0);
        due.is("readerOf(1, 4)", x.readerOf(1, 4), 0);
    }

    private void type() {
        fresh("promise 10");
        due.is("type(0)", x.type((char) 0), 1);
        due.is("type(65535)", x.type((char) 65535), 2);
        for (int length = 3; length <= 60; length++) {
            due.is("type('1')", x.type('1'), length);
        }
        due.is("type('1')", x.type('1'), FULL);
        due.is("count(11)", x.count(11), 60);
        due.is("typing is no act", x.count(10), 0);
        due.is("fault()", x.fault(), 0);
    }

    private void clearText() {
        fresh("promise 11");
        due.is("clearText()", x.clearText(), 0);
        write("12;3");
        due.is("clearText()", x.clearText(), 4);
        due.is("count(11)", x.count(11), 0);
        due.is("fault()", x.fault(), 0);
        due.is("clearing is no act", x.count(10), 0);
        measureText("5", 1);
        due.is("dayOf(0, 2)", x.dayOf(0, 2), 1005);
        due.is("dayOf(1, 2)", x.dayOf(1, 2), NONE);
        due.is("clearText()", x.clearText(), 1);
        due.is("undo()", x.undo(), 0);
        due.is("undo() brings no text back", x.count(11), 0);
    }

    private void fault() {
        fresh("promise 12");
        due.is("fault() of the empty text", x.fault(), 0);
        String[] good = {"0", "1", "9", "10", "39", "40", "-1", "-9", "-40", "0*1", "0*9", "0*10",
            "0*20", "-12*19", "1;2", "0;0;0", "3*4;-5;6*7"};
        for (String text : good) {
            faultOf(text, NONE);
        }
        faultOf("-", 1);
        faultOf("-0", 1);
        faultOf("--1", 1);
        faultOf("+1", 0);
        faultOf(" 1", 0);
        faultOf("x", 0);
        faultOf("*", 0);
        faultOf(";", 0);
        faultOf("00", 1);
        faultOf("01", 1);
        faultOf("41", 1);
        faultOf("50", 1);
        faultOf("400", 2);
        faultOf("-41", 2);
        faultOf("-50", 2);
        faultOf("100", 2);
        faultOf("1*", 2);
        faultOf("1*0", 2);
        faultOf("1*01", 2);
        faultOf("1*-1", 2);
        faultOf("1*21", 3);
        faultOf("1*30", 3);
        faultOf("1*200", 4);
        faultOf("1*2*3", 3);
        faultOf("1*;", 2);
        faultOf("1;", 2);
        faultOf("1;;2", 2);
        faultOf("1;-", 3);
        faultOf("1;-0", 3);
        faultOf("1-2", 1);
        faultOf("1 ", 1);
        faultOf("1*2x", 3);
        faultOf("1:2", 1);
        faultOf("1/2", 1);
        // Signs whose lower eight bits are a digit's, and digits of another script.
        faultOf("1" + (char) (256 + '1'), 1);
        faultOf("1" + (char) 0x661, 1);
        String long59 = "0;0;0;0;0;0;0;0;0;0;0;0;0;0;0;0;0;0;0;0;0;0;0;0;0;0;0;0;0;0";
        faultOf(long59, NONE);
        faultOf(long59 + ";", 60);
        faultOf(long59 + "*", 60);
        faultOf(long59 + "1", 59);
        measureText(long59, 30);
    }

    private void undo() {
        fresh("promise 13");
        due.is("undo()", x.undo(), NONE);
        for (int value = 3; value <= 8; value++) {
            x.set(0, value);
        }
        due.is("count(10)", x.count(10), 4);
        due.is("undo()", x.undo(), 3);
        due.is("count(12)", x.count(12), 1007);
        due.is("undo()", x.undo(), 2);
        due.is("undo()", x.undo(), 1);
        due.is("undo()", x.undo(), 0);
        due.is("count(12)", x.count(12), 1004);
        due.is("undo()", x.undo(), NONE);
        due.is("count(12)", x.count(12), 1004);
        x.set(0, 9);
        due.is("an act behind undo()", x.count(10), 1);
        due.is("undo()", x.undo(), 0);
        due.is("count(12)", x.count(12), 1004);
    }

    private void undoBringsAllBack() {
        fresh("promise 13, the whole state");
        x.saint(0, 40, 6, 9);
        x.bet(2, true, 7);
        measureText("1*19", 19);
        int base = x.dayOf(4, 0);
        due.is("count(7): 10 mistakes of 1, 9 of -5", x.count(7), 55);
        int sum = x.count(7);
        x.bet(1, false, 50);
        x.measure(-8);
        due.is("count(0)", x.count(0), 1);
        due.is("undo()", x.undo(), 3);
        due.is("count(0)", x.count(0), 0);
        due.is("count(1)", x.count(1), 19);
        due.is("count(2)", x.count(2), 0);
        due.is("count(5)", x.count(5), 0);
        due.is("count(4)", x.count(4), 0);
        due.is("count(6)", x.count(6), 10);
        due.is("count(7)", x.count(7), sum);
        due.is("count(8)", x.count(8), NONE);
        due.is("count(9)", x.count(9), 100007);
        due.is("dayOf(4, 0)", x.dayOf(4, 0), base);
        due.is("dayOf(4, 2)", x.dayOf(4, 2), 1001);
        due.is("dayOf(4, 3)", x.dayOf(4, 3), 995);
        due.is("dayOf(19, 2)", x.dayOf(19, 2), NONE);
        due.is("readerOf(1, 0)", x.readerOf(1, 0), 50);
        due.is("readerOf(1, 1)", x.readerOf(1, 1), 50);
        due.is("past(0, 0, 0)", x.past(0, 0, 0), UNKNOWN);
        due.isFloat("meanMistake()", x.meanMistake(), (float) sum / 19.0f);
        for (int how = 0; how < 12; how++) {
            List<Whole.Line> before = Whole.stateBehind(changes(how));
            Consumer<MistakeAlmanac> measured = changes(how).andThen(x -> {
                x.clearText();
                type(x, "-9*20;8*20;-2*20;4*15;-1*20");
                x.measureAll();
            });
            due.holds("measureAll() changes the state", !Whole.stateBehind(measured).equals(before));
            due.same("undo()", Whole.stateBehind(measured.andThen(x -> x.undo())), before);
        }
    }

    private void keep() {
        fresh("promise 14");
        due.is("keep()", x.keep(), 0);
        measureText("1*20;2*3", 23);
        due.is("keep()", x.keep(), 23);
        due.is("keeping is no act", x.count(10), 1);
        x.measure(3);
        due.is("keep() in place of the one that was", x.keep(), 24);
        x.measure(4);
        due.is("restore()", x.restore(), 24);
        due.is("dayOf(3, 2)", x.dayOf(3, 2), 1003);
        due.is("dayOf(4, 2)", x.dayOf(4, 2), NONE);
    }

    private void restore() {
        fresh("promise 15");
        due.is("restore()", x.restore(), NONE);
        due.is("count(10)", x.count(10), 0);
        x.measure(5);
        x.keep();
        x.measure(6);
        x.set(1, 1);
        write("3");
        due.is("restore()", x.restore(), 1);
        due.is("count(13)", x.count(13), 1050);
        due.is("dayOf(0, 2)", x.dayOf(0, 2), 1005);
        due.is("dayOf(1, 2)", x.dayOf(1, 2), NONE);
        due.is("the text is no part of it", x.count(11), 1);
        due.is("it is an act", x.count(10), 4);
        due.is("undo()", x.undo(), 3);
        due.is("count(13)", x.count(13), 1001);
        due.is("dayOf(1, 2)", x.dayOf(1, 2), 1006);
        due.is("undo() leaves the snapshot", x.restore(), 1);
        x.measure(-7);
        due.is("the snapshot stays as it was", x.restore(), 1);
        due.is("dayOf(1, 2)", x.dayOf(1, 2), NONE);
        due.is("restore() of the same", x.restore(), 1);
        due.is("count(10)", x.count(10), 4);
        for (int how = 0; how < 12; how++) {
            List<Whole.Line> before = Whole.stateBehind(changes(how));
            Consumer<MistakeAlmanac> behind = changes(how).andThen(x -> x.keep()).andThen(changed(how + 3));
            due.holds("the calls change the state", !Whole.stateBehind(behind).equals(before));
            Consumer<MistakeAlmanac> restored = behind.andThen(x -> x.restore());
            due.same("restore()", Whole.stateBehind(restored), before);
            due.same("measure(1) and undo() behind restore()", Whole.stateBehind(restored.andThen(x -> {
                x.measure(1);
                x.undo();
            })), before);
        }
    }

    private void dayOf() {
        fresh("promise 16");
        x.base(0, -4);
        x.base(1, 9);
        x.saint(0, 0, 5, 1);
        due.is("dayOf(20, 5)", x.dayOf(20, 5), UNKNOWN);
        due.is("dayOf(-1, 0)", x.dayOf(-1, 0), UNKNOWN);
        due.is("dayOf(0, 5)", x.dayOf(0, 5), BAD_VALUE);
        due.is("dayOf(0, -1)", x.dayOf(0, -1), BAD_VALUE);
        due.is("dayOf(1, 1) ahead of the feast", x.dayOf(1, 1), 1009);
        x.measure(-1);
        due.is("dayOf(0, 0)", x.dayOf(0, 0), 996);
        due.is("dayOf(0, 1)", x.dayOf(0, 1), 996);
        due.is("dayOf(0, 2)", x.dayOf(0, 2), 999);
        due.is("dayOf(0, 3)", x.dayOf(0, 3), 1003);
        due.is("dayOf(1, 0)", x.dayOf(1, 0), 1009);
        due.is("dayOf(1, 1)", x.dayOf(1, 1), 1014);
        due.is("dayOf(1, 2)", x.dayOf(1, 2), NONE);
        due.is("dayOf(1, 3)", x.dayOf(1, 3), NONE);
        due.is("dayOf(1, 4)", x.dayOf(1, 4), 0);
        x.set(2, 14);
        due.is("dayOf(1, 4) at the bound", x.dayOf(1, 4), 1);
        x.set(2, 13);
        due.is("dayOf(1, 4) above the bound", x.dayOf(1, 4), 0);
        x.set(2, -5);
        due.is("dayOf(0, 4) by the bound of now", x.dayOf(0, 4), 0);
        x.set(2, -4);
        due.is("dayOf(0, 4) by the bound of now", x.dayOf(0, 4), 1);
        due.is("dayOf(19, 1)", x.dayOf(19, 1), 1000);
    }

    private void past() {
        fresh("promise 17");
        due.is("past(0, 0, 0)", x.past(0, 0, 0), UNKNOWN);
        due.is("past(0, 0, 2)", x.past(0, 0, 2), UNKNOWN);
        x.set(1, 0);
        x.base(3, 2);
        measureText("7*20;-5*20;1", 41);
        due.is("past(0, 3, 0)", x.past(0, 3, 0), 995);
        due.is("past(0, 3, 1)", x.past(0, 3, 1), 993);
        due.is("past(1, 3, 0)", x.past(1, 3, 0), 1007);
        due.is("past(1, 3, 1)", x.past(1, 3, 1), 1005);
        due.is("past(1, 19, 1)", x.past(1, 19, 1), 1007);
        due.is("past(2, 3, 0)", x.past(2, 3, 0), UNKNOWN);
        due.is("past(-1, 3, 0)", x.past(-1, 3, 0), UNKNOWN);
        due.is("past(0, 20, 0)", x.past(0, 20, 0), UNKNOWN);
        due.is("past(0, -1, 3)", x.past(0, -1, 3), UNKNOWN);
        due.is("past(0, 0, 2)", x.past(0, 0, 2), BAD_VALUE);
        due.is("past(0, 0, -1)", x.past(0, 0, -1), BAD_VALUE);
        measureText("1*19;1*20;1*20;1*20", 79);
        due.is("past(3, 0, 0)", x.past(3, 0, 0), 1001);
        due.is("past(4, 0, 0)", x.past(4, 0, 0), UNKNOWN);
    }

    private void mean() {
        fresh("promise 18");
        due.is("mean(0, 0, 0)", x.mean(0, 0, 0), UNKNOWN);
        due.is("mean(0, 0, 2)", x.mean(0, 0, 2), UNKNOWN);
        x.set(1, 0);
        measureText("-8;1;2*16;3;20", 20);
        for (int way = 0; way < 2; way++) {
            due.is("mean(0, 0, way) is -5/3", x.mean(0, 0, way), 999);
            due.is("mean(0, 1, way) is -3/4", x.mean(0, 1, way), 1000);
            due.is("mean(0, 2, way) is -1/5", x.mean(0, 2, way), 1000);
            due.is("mean(0, 3, way) is 9/5", x.mean(0, 3, way), 1001);
            due.is("mean(0, 10, way)", x.mean(0, 10, way), 1002);
            due.is("mean(0, 17, way) is 29/5", x.mean(0, 17, way), 1005);
            due.is("mean(0, 18, way) is 27/4", x.mean(0, 18, way), 1006);
            due.is("mean(0, 19, way) is 25/3", x.mean(0, 19, way), 1008);
        }
        x.set(0, 0);
        for (int way = 0; way < 2; way++) {
            due.is("mean(0, 0, way) with reach 0", x.mean(0, 0, way), 992);
            due.is("mean(0, 19, way) with reach 0", x.mean(0, 19, way), 1020);
        }
        x.set(0, 9);
        for (int way = 0; way < 2; way++) {
            due.is("mean(0, 0, way) is 9/10", x.mean(0, 0, way), 1000);
            due.is("mean(0, 9, way) is 28/19", x.mean(0, 9, way), 1001);
            due.is("mean(0, 10, way) is 56/19", x.mean(0, 10, way), 1002);
        }
        due.is("mean(1, 0, 0)", x.mean(1, 0, 0), UNKNOWN);
        due.is("mean(-1, 0, 0)", x.mean(-1, 0, 0), UNKNOWN);
        due.is("mean(0, 20, 3)", x.mean(0, 20, 3), UNKNOWN);
        due.is("mean(0, -1, 0)", x.mean(0, -1, 0), UNKNOWN);
        due.is("mean(0, 0, 2)", x.mean(0, 0, 2), BAD_VALUE);
        due.is("mean(0, 0, -1)", x.mean(0, 0, -1), BAD_VALUE);
        measureText("5*20", 20);
        due.is("mean(0, 4, 0)", x.mean(0, 4, 0), 1005);
        due.is("mean(1, 0, 1)", x.mean(1, 0, 1), 1000);
    }

    private void saintOf() {
        fresh("promise 19");
        due.is("saintOf(0, 9)", x.saintOf(0, 9), UNKNOWN);
        x.saint(1, -3, -20, 9);
        x.saint(1, -4, 0, 1);
        due.is("saintOf(-1, 0)", x.saintOf(-1, 0), UNKNOWN);
        due.is("saintOf(2, 0)", x.saintOf(2, 0), UNKNOWN);
        due.is("saintOf(0, 5)", x.saintOf(0, 5), BAD_VALUE);
        due.is("saintOf(0, -1)", x.saintOf(0, -1), BAD_VALUE);
        due.is("saintOf(0, 0)", x.saintOf(0, 0), 1);
        due.is("saintOf(0, 1)", x.saintOf(0, 1), 997);
        due.is("saintOf(0, 2)", x.saintOf(0, 2), 980);
        due.is("saintOf(0, 3)", x.saintOf(0, 3), 9);
        x.measure(-9);
        due.is("saintOf(0, 4) ahead of the feast", x.saintOf(0, 4), 0);
        x.measure(-3);
        due.is("saintOf(0, 4) at its bound", x.saintOf(0, 4), 1);
        due.is("saintOf(1, 4) above its bound", x.saintOf(1, 4), 0);
        measureText("0*17", 17);
        due.is("saintOf(0, 4) all the year", x.saintOf(0, 4), 1);
        x.measure(0);
        due.is("saintOf(0, 4) in the next year", x.saintOf(0, 4), 0);
        measureText("0;-2", 2);
        due.is("saintOf(0, 4) by the warmth of this year", x.saintOf(0, 4), 0);
        due.is("dayOf(2, 1) is the base", x.dayOf(2, 1), x.dayOf(2, 0));
    }

    private void readerOf() {
        fresh("promise 20");
        due.is("readerOf(4, 5)", x.readerOf(4, 5), UNKNOWN);
        due.is("readerOf(-1, 0)", x.readerOf(-1, 0), UNKNOWN);
        due.is("readerOf(0, 5)", x.readerOf(0, 5), BAD_VALUE);
        due.is("readerOf(0, -1)", x.readerOf(0, -1), BAD_VALUE);
        x.bet(3, true, 12);
        due.is("readerOf(3, 0)", x.readerOf(3, 0), 88);
        due.is("readerOf(3, 1)", x.readerOf(3, 1), 12);
        due.is("readerOf(3, 2)", x.readerOf(3, 2), 1);
        x.measure(0);
        due.is("readerOf(3, 0)", x.readerOf(3, 0), 112);
        due.is("readerOf(3, 1)", x.readerOf(3, 1), 0);
        due.is("readerOf(3, 2)", x.readerOf(3, 2), 0);
        due.is("readerOf(3, 3)", x.readerOf(3, 3), 1);
        for (int i = 0; i < 2; i++) {
            x.bet(3, false, 1);
            x.measure(0);
        }
        due.is("readerOf(3, 0)", x.readerOf(3, 0), 110);
        due.is("readerOf(3, 3)", x.readerOf(3, 3), 1);
        due.is("readerOf(3, 4)", x.readerOf(3, 4), 2);
        due.is("readerOf(0, 4)", x.readerOf(0, 4), 0);
    }

    private void count() {
        fresh("promise 21");
        due.is("count(16)", x.count(16), BAD_VALUE);
        due.is("count(-1)", x.count(-1), BAD_VALUE);
        due.is("count(8)", x.count(8), NONE);
        x.set(1, 0);
        measureText("3*10;-4*11;5", 22);
        due.is("count(0)", x.count(0), 1);
        due.is("count(1)", x.count(1), 2);
        due.is("count(2)", x.count(2), 1);
        x.saint(7, 0, 0, 1);
        due.is("count(3)", x.count(3), 1);
        due.is("count(4)", x.count(4), 11);
        due.is("count(5)", x.count(5), 0);
        due.is("count(6)", x.count(6), 11);
        due.is("count(7)", x.count(7), 9);
        due.is("count(8)", x.count(8), 70);
        x.bet(0, true, 100);
        x.measure(1);
        due.is("count(9)", x.count(9), 100100);
        due.is("count(10)", x.count(10), 4);
        due.is("count(11)", x.count(11), 12);
        x.set(0, 3);
        x.set(2, -7);
        x.set(3, 8);
        due.is("count(12)", x.count(12), 1003);
        due.is("count(13)", x.count(13), 1000);
        due.is("count(14)", x.count(14), 993);
        due.is("count(15)", x.count(15), 1008);
    }

    private void meanMistake() {
        fresh("promise 22");
        due.isFloat("meanMistake()", x.meanMistake(), 0.0f);
        x.measure(1);
        due.isFloat("meanMistake()", x.meanMistake(), 1.0f);
        x.measure(-4);
        due.isFloat("meanMistake()", x.meanMistake(), 2.5f);
        x.measure(0);
        due.isFloat("meanMistake()", x.meanMistake(), 5.0f / 3.0f);
        x.set(1, 0);
        measureText("2*17;3", 18);
        due.isFloat("meanMistake() over years", x.meanMistake(), 42.0f / 21.0f);
        x.undo();
        due.isFloat("meanMistake()", x.meanMistake(), 5.0f / 3.0f);
    }

    private void nextBase() {
        fresh("promise 23");
        due.is("nextBase(-1)", x.nextBase(-1), UNKNOWN);
        due.is("nextBase(20)", x.nextBase(20), UNKNOWN);
        x.base(2, -6);
        x.saint(0, 40, 20, 9);
        x.measure(9);
        x.set(1, 100);
        // The mistake 9 of day 0, among the days 0 to 2, 0 to 3, 0 to 4.
        due.is("nextBase(0)", x.nextBase(0), 1003);
        due.is("nextBase(1)", x.nextBase(1), 1002);
        due.is("nextBase(2)", x.nextBase(2), 995);
        due.is("nextBase(3)", x.nextBase(3), 1000);
        x.set(0, 0);
        due.is("nextBase(0)", x.nextBase(0), 1009);
        due.is("nextBase(1)", x.nextBase(1), 1000);
        x.set(1, 50);
        due.is("nextBase(0)", x.nextBase(0), 1004);
        due.is("it is no act", x.count(10), 4);
        x.base(5, 40);
        measureText("20*4;40", 5);
        // Foretold for day 5 is 40 at most, so day 5 is no mistake.
        due.is("nextBase(5)", x.nextBase(5), 1040);

        fresh("promise 23, at most 40");
        x.set(0, 0);
        x.set(1, 100);
        x.base(1, 35);
        x.saint(0, 40, -20, 1);
        measureText("0;40", 2);
        due.is("nextBase(1)", x.nextBase(1), 1040);
        measureText("0*17", 17);
        due.is("nextBase(0)", x.nextBase(0), 1000);
        int foreseen = x.nextBase(0);
        x.measure(0);
        due.is("the base came as told", x.dayOf(0, 0), foreseen);
        due.is("the base came as told", x.dayOf(1, 0), 1040);
        due.is("an old year's mistakes weigh nothing", x.nextBase(1), 1040);
    }

    private void bestBound() {
        fresh("promise 24");
        due.is("bestBound(0)", x.bestBound(0), NONE);
        due.is("bestBound(2)", x.bestBound(2), BAD_VALUE);
        due.is("bestBound(-1)", x.bestBound(-1), BAD_VALUE);
        x.set(1, 0);
        x.base(0, 3);
        measureText("0;1*19", 20);
        // Told 3 with frost, 0 without 19 times: any bound below 0 misses one, 0 alarms 19 times.
        due.is("bestBound(0)", x.bestBound(0), 999);
        due.is("bestBound(1)", x.bestBound(1), 1);
        for (int day = 1; day < 20; day++) {
            x.base(day, 8);
        }
        measureText("0;1*19", 20);
        due.is("bestBound(0) from 3 to 7", x.bestBound(0), 1003);
        due.is("bestBound(1)", x.bestBound(1), 0);
        measureText("1;0*19", 20);
        due.is("bestBound(0) from 8 to 20", x.bestBound(0), 1008);
        due.is("bestBound(1)", x.bestBound(1), 1);
        measureText("40*20", 20);
        due.is("bestBound(0) at 0", x.bestBound(0), 1000);
        due.is("bestBound(1)", x.bestBound(1), 0);

        fresh("promise 24, of two the one below");
        x.set(1, 0);
        for (int day = 0; day < 20; day++) {
            x.base(day, 10);
        }
        x.base(0, 0);
        x.base(1, 1);
        // 0 alarms at day 0; -1 brings one miss; 1 brings one alarm; 0 brings both.
        measureText("1;0;1*18", 20);
        due.is("bestBound(0)", x.bestBound(0), 999);
        due.is("bestBound(1)", x.bestBound(1), 1);

        fresh("promise 24, the ends of the bounds");
        x.set(1, 0);
        for (int day = 0; day < 20; day++) {
            x.base(day, day < 10 ? 20 : 21);
        }
        measureText("0*10;1*10", 20);
        due.is("bestBound(0)", x.bestBound(0), 1020);
        due.is("bestBound(1)", x.bestBound(1), 0);
        for (int day = 0; day < 20; day++) {
            x.base(day, day < 10 ? -20 : -19);
        }
        measureText("0*10;1*10", 20);
        due.is("bestBound(0)", x.bestBound(0), 980);
        due.is("bestBound(1)", x.bestBound(1), 0);
        x.set(2, 20);
        due.is("the bound of now does not matter", x.bestBound(0), 980);
    }

    private void bestRate() {
        fresh("promise 25");
        due.is("bestRate(0)", x.bestRate(0), NONE);
        due.is("bestRate(2)", x.bestRate(2), BAD_VALUE);
        due.is("bestRate(-1)", x.bestRate(-1), BAD_VALUE);
        measureText("20*20", 20);
        due.is("bestRate(0)", x.bestRate(0), NONE);
        due.is("bestRate(1)", x.bestRate(1), NONE);
        // The bases were 0, all mistakes 20: the rate 30 brings 6.
        measureText("6*20", 20);
        due.is("bestRate(0)", x.bestRate(0), 30);
        due.is("bestRate(1)", x.bestRate(1), 0);
        // The bases were 10 (the rate 50), all mistakes -4: the rate 100 brings 6, which is the nearest to 0.
        measureText("0*20", 20);
        due.is("bestRate(0)", x.bestRate(0), 100);
        due.is("bestRate(1)", x.bestRate(1), 120);

        fresh("promise 25, the lowest, the reach of now, no saints");
        x.set(0, 0);
        measureText("0;40*19", 20);
        x.set(0, 1);
        x.saint(0, 40, 5, 9);
        measureText("0;20*19", 20);
        // Means by reach 1: day 0 has 20, day 1 has 26, the others 40.
        // At 49 and 50: day 0 is off by 9 and 10, day 1 by 8 and 7, the others by 1 and 0.
        due.is("bestRate(0)", x.bestRate(0), 50);
        due.is("bestRate(1)", x.bestRate(1), 17);
        x.set(0, 0);
        due.is("bestRate(0) with reach 0", x.bestRate(0), 50);
        due.is("bestRate(1) with reach 0", x.bestRate(1), 0);

        fresh("promise 25, of several the lowest");
        measureText("3*20;1*20", 40);
        // 3 times the rate, divided by 100, is 1 from 34 to 66.
        due.is("bestRate(0)", x.bestRate(0), 34);
        due.is("bestRate(1)", x.bestRate(1), 0);

        fresh("promise 25, the rate 0");
        measureText("20*20;0*20", 40);
        due.is("bestRate(0)", x.bestRate(0), 0);
        due.is("bestRate(1)", x.bestRate(1), 0);

        fresh("promise 25, bases at most 40");
        x.set(0, 0);
        x.base(1, 30);
        x.saint(0, 40, -20, 1);
        measureText("0;40;0*18", 20);
        measureText("0;40;0*18", 20);
        // 30 and a third of 30 are 40: beyond that rate the base stays 40.
        due.is("bestRate(0)", x.bestRate(0), 34);
        due.is("bestRate(1)", x.bestRate(1), 0);
    }

    private void ifMeasured() {
        fresh("promise 26");
        due.is("ifMeasured(4, 41)", x.ifMeasured(4, 41), UNKNOWN);
        due.is("ifMeasured(-1, 0)", x.ifMeasured(-1, 0), UNKNOWN);
        due.is("ifMeasured(0, 41)", x.ifMeasured(0, 41), BAD_VALUE);
        due.is("ifMeasured(0, -41)", x.ifMeasured(0, -41), BAD_VALUE);
        due.is("ifMeasured(0, 40) without a bet", x.ifMeasured(0, 40), 100);
        x.set(3, 7);
        x.bet(0, true, 10);
        x.bet(1, false, 10);
        due.is("ifMeasured(0, 0)", x.ifMeasured(0, 0), 110);
        due.is("ifMeasured(0, 1)", x.ifMeasured(0, 1), 90);
        due.is("ifMeasured(1, 1)", x.ifMeasured(1, 1), 170);
        due.is("ifMeasured(1, 0)", x.ifMeasured(1, 0), 90);
        due.is("ifMeasured(1, -40)", x.ifMeasured(1, -40), 90);
        x.base(0, 1);
        due.is("ifMeasured(0, 0)", x.ifMeasured(0, 0), 170);
        due.is("ifMeasured(1, 40)", x.ifMeasured(1, 40), 110);
        due.is("it changes nothing", x.count(1), 0);
        due.is("it is no act", x.count(10), 4);
        x.measure(0);
        due.is("readerOf(0, 0)", x.readerOf(0, 0), 170);
        due.is("ifMeasured(0, 0)", x.ifMeasured(0, 0), 170);
        x.saint(0, 0, 20, 1);
        x.bet(0, true, 20);
        due.is("ifMeasured(0, 0) with a saint that foretells otherwise", x.ifMeasured(0, 0), 310);
    }
}
