import java.util.List;
import java.util.function.Consumer;
import java.util.function.ToIntFunction;

/** Terms, "HISTORY", and the promises 13 to 15: each sentence just at its ends. */
public final class HistoryEdgesTest extends Scene {
    private Consumer<MistakeAlmanac> run;
    private List<Whole.Line> before;

    public static void main(String[] args) {
        HistoryEdgesTest test = new HistoryEdgesTest();
        test.almanacsAreAsTold();
        test.history();
        test.snapshot();
        test.in("a new almanac", Almanacs.NEW);
        test.actsInTheNew();
        test.noActs();
        test.in("a full almanac", Almanacs.FULL);
        test.actsInTheFull();
        test.noActs();
        test.in("the first day of a year", Almanacs.FIRST_DAY);
        test.actsOnTheFirstDay();
        test.noActs();
        test.in("the last day of a year", Almanacs.LAST_DAY);
        test.actsOnTheLastDay();
        test.noActs();
        test.due.end("HistoryEdgesTest");
    }

    /** What the tests lean on: that the almanacs are empty and full where they are told to be. */
    private void almanacsAreAsTold() {
        isAsTold(Almanacs.NEW, 0, 0, 0, 0, 0, 0);
        isAsTold(Almanacs.FULL, 4, 15, 4, 5, 4, 60);
        isAsTold(Almanacs.FIRST_DAY, 2, 0, 2, 2, 0, 4);
        isAsTold(Almanacs.LAST_DAY, 1, 19, 1, 1, 2, 5);
    }

    private void isAsTold(Consumer<MistakeAlmanac> almanac, int year, int day, int known, int saints,
            int states, int text) {
        fresh("the almanacs of the tests");
        almanac.accept(x);
        isCount(0, year);
        isCount(1, day);
        isCount(2, known);
        isCount(3, saints);
        isCount(10, states);
        isCount(11, text);
    }

    // ---- at most 4 states

    private void history() {
        emptyAtFirst();
        atMostFourStates();
        theOldestIsDropped();
        undoBehindAnActBehindUndo();
        undoLeavesTheText();
        undoLeavesTheSnapshot();
    }

    private void emptyAtFirst() {
        fresh("\"NONE if the history is empty\"");
        isCount(10, 0);
        due.is("undo()", x.undo(), NONE);
        due.is("undo()", x.undo(), NONE);
        x.measure(1);
        due.is("undo()", x.undo(), 0);
        due.is("undo()", x.undo(), NONE);
        isCount(1, 0);
        isCount(10, 0);
    }

    private void atMostFourStates() {
        fresh("\"A history of at most 4 states is kept\"");
        for (int acts = 1; acts <= 10; acts++) {
            again();
            for (int act = 1; act <= acts; act++) {
                x.measure(act);
                isCount(10, Math.min(4, act));
            }
            int states = Math.min(4, acts);
            for (int left = states - 1; left >= 0; left--) {
                due.is("undo()", x.undo(), left);
                isCount(10, left);
                // The states come back one by one, the latest first.
                isCount(1, acts - states + left);
            }
            due.is("undo() of none", x.undo(), NONE);
            isCount(1, acts - states);
        }
    }

    private void theOldestIsDropped() {
        fresh("\"when one more is recorded, the oldest one is dropped\"");
        x.base(0, 1);
        x.set(3, 9);
        x.saint(1, 2, 3, 4);
        x.bet(0, true, 5);
        isCount(10, 4);
        x.measure(6);
        isCount(10, 4);
        due.is("undo() of measure", x.undo(), 3);
        due.is("undo() of bet", x.undo(), 2);
        due.is("undo() of saint", x.undo(), 1);
        due.is("undo() of set", x.undo(), 0);
        isCount(15, 1002);
        due.is("undo() of base", x.undo(), NONE);
        isBase(0, 1);
    }

    private void undoBehindAnActBehindUndo() {
        fresh("\"undo() removes and restores the latest one\"");
        for (int value = 3; value <= 9; value++) {
            x.set(0, value);
        }
        due.is("undo()", x.undo(), 3);
        due.is("undo()", x.undo(), 2);
        isCount(12, 1007);
        x.measure(4);
        isCount(10, 3);
        x.measure(5);
        isCount(10, 4);
        x.measure(6);
        isCount(10, 4);
        int[] days = {2, 1, 0, 0};
        int[] reaches = {1007, 1007, 1007, 1006};
        for (int i = 0; i < 4; i++) {
            due.is("undo()", x.undo(), 3 - i);
            isCount(1, days[i]);
            isCount(12, reaches[i]);
        }
        due.is("undo()", x.undo(), NONE);
        isCount(12, 1006);
    }

    private void undoLeavesTheText() {
        fresh("\"A state is everything but the text, ..\"");
        type(x, "1");
        x.measureAll();
        type(x, ";2");
        x.undo();
        isCount(11, 3);
        due.is("measureAll()", x.measureAll(), 2);
        x.clearText();
        x.undo();
        isCount(11, 0);
        due.is("fault()", x.fault(), 0);
        isCount(1, 0);
    }

    private void undoLeavesTheSnapshot() {
        fresh("\"A state is everything but .. the snapshot\"");
        x.measure(1);
        x.measure(2);
        due.is("keep()", x.keep(), 2);
        x.undo();
        x.undo();
        due.is("restore()", x.restore(), 2);
        due.is("undo()", x.undo(), 0);
        isCount(1, 0);
        due.is("restore() again", x.restore(), 2);
        due.is("dayOf(1, 2)", x.dayOf(1, 2), 1002);
        due.is("undo()", x.undo(), 0);
    }

    // ---- the snapshot

    private void snapshot() {
        emptySnapshot();
        snapshotOfTheNew();
        inPlaceOfTheOneBefore();
        snapshotStays();
        restoreIsAnAct();
        daysSoFar();
    }

    private void emptySnapshot() {
        fresh("\"There is one snapshot, empty at first\"");
        due.is("restore()", x.restore(), NONE);
        x.measure(1);
        due.is("restore()", x.restore(), NONE);
        isCount(1, 1);
        isCount(10, 1);
        x.undo();
        due.is("restore()", x.restore(), NONE);
    }

    private void snapshotOfTheNew() {
        fresh("a snapshot of a new almanac is one");
        due.is("keep()", x.keep(), 0);
        due.is("restore()", x.restore(), 0);
        isCount(10, 1);
        x.measure(1);
        due.is("restore()", x.restore(), 0);
        isCount(1, 0);
        isCount(10, 3);
    }

    private void inPlaceOfTheOneBefore() {
        fresh("\"Takes a snapshot of the state, in place of the one that was\"");
        x.measure(1);
        x.keep();
        x.measure(2);
        x.keep();
        due.is("keep() again", x.keep(), 2);
        x.measure(3);
        due.is("restore()", x.restore(), 2);
        x.undo();
        x.undo();
        x.undo();
        due.is("keep() of fewer days", x.keep(), 1);
        due.is("restore()", x.restore(), 1);
    }

    private void snapshotStays() {
        fresh("\"Restores the state of the snapshot, which stays\"");
        x.saint(0, 0, 7, 1);
        x.keep();
        x.strike(0);
        x.restore();
        x.strike(0);
        x.measure(9);
        x.base(5, 5);
        due.is("restore()", x.restore(), 0);
        isCount(3, 1);
        due.is("saintOf(0, 2)", x.saintOf(0, 2), 1007);
        isBase(5, 0);
        x.measure(0);
        x.bet(0, true, 100);
        due.is("restore()", x.restore(), 0);
        due.is("readerOf(0, 0)", x.readerOf(0, 0), 100);
        isTold(1, 0);
        due.is("restore() of what is so already", x.restore(), 0);
        isCount(10, 4);
    }

    private void restoreIsAnAct() {
        fresh("\"Restores the state of the snapshot .. This is an act\", over the year's end");
        measureText("4*19", 19);
        x.keep();
        measureText("4*20;4", 21);
        isCount(0, 2);
        due.is("restore()", x.restore(), 19);
        isCount(0, 0);
        isCount(1, 19);
        isCount(2, 0);
        isBase(0, 0);
        isCount(11, 6);
        isCount(10, 3);
        due.is("undo()", x.undo(), 2);
        isCount(0, 2);
        isCount(1, 0);
        isCount(2, 2);
        due.is("undo()", x.undo(), 1);
        isCount(0, 0);
    }

    private void daysSoFar() {
        fresh("\"Returns the days measured so far\"");
        keepBases();
        int[] days = {0, 1, 19, 20, 21, 99, 100, 101};
        int measured = 0;
        for (int day : days) {
            while (measured < day) {
                x.measure(0);
                measured++;
            }
            due.is("keep()", x.keep(), day);
            x.measure(1);
            due.is("restore()", x.restore(), day);
        }
    }

    // ---- each act records the state that was before it

    private void in(String place, Consumer<MistakeAlmanac> newRun) {
        due.at("\"Each call of a method that is described as an act .. records the state that was before it\", " + place);
        run = newRun;
        before = Whole.stateBehind(run);
    }

    /** Behind the act, undo() brings the state before it, and then those that the history held. */
    private void act(String call, int wanted, ToIntFunction<MistakeAlmanac> made) {
        MistakeAlmanac one = new MistakeAlmanac();
        run.accept(one);
        int states = one.count(10);
        int text = one.count(11);
        due.is(call, made.applyAsInt(one), wanted);
        int statesThen = Math.min(4, states + 1);
        due.is("states behind " + call, one.count(10), statesThen);
        due.is("length of the text behind " + call, one.count(11), text);
        Consumer<MistakeAlmanac> old = run;
        Consumer<MistakeAlmanac> undone = run.andThen(made::applyAsInt);
        for (int left = statesThen - 1; left >= 0; left--) {
            due.is("undo() behind " + call, one.undo(), left);
            undone = undone.andThen(x -> x.undo());
            due.same(call + ", undo() with " + left + " left", Whole.stateBehind(undone), Whole.stateBehind(old));
            old = old.andThen(x -> x.undo());
        }
        due.is("undo() of none behind " + call, one.undo(), NONE);
        isTheSameSnapshot(call, made);
    }

    private void isTheSameSnapshot(String call, ToIntFunction<MistakeAlmanac> made) {
        MistakeAlmanac one = new MistakeAlmanac();
        run.accept(one);
        MistakeAlmanac other = new MistakeAlmanac();
        run.accept(other);
        made.applyAsInt(other);
        int answer = one.restore();
        due.is("restore() behind " + call, other.restore(), answer);
        if (answer != NONE) {
            due.same(call + ", restore()", Whole.stateBehind(run.andThen(made::applyAsInt).andThen(x -> x.restore())),
                    Whole.stateBehind(run.andThen(x -> x.restore())));
        }
    }

    private void actsInTheNew() {
        act("measure(-40)", 960, x -> x.measure(-40));
        act("measure(40)", 1040, x -> x.measure(40));
        act("base(0, -40)", 1000, x -> x.base(0, -40));
        act("base(19, 40)", 1000, x -> x.base(19, 40));
        act("saint(0, -40, -20, 1)", 0, x -> x.saint(0, -40, -20, 1));
        act("saint(19, 40, 20, 9)", 0, x -> x.saint(19, 40, 20, 9));
        act("set(0, 0)", 1002, x -> x.set(0, 0));
        act("set(1, 100)", 1050, x -> x.set(1, 100));
        act("set(2, -20)", 1000, x -> x.set(2, -20));
        act("set(3, 9)", 1002, x -> x.set(3, 9));
        act("bet(0, true, 100)", 0, x -> x.bet(0, true, 100));
        act("bet(3, false, 1)", 99, x -> x.bet(3, false, 1));
    }

    private void actsInTheFull() {
        act("measure(0)", 1000 - told(15), x -> x.measure(0));
        act("base(15, 7)", baseOf(15), x -> x.base(15, 7));
        act("base(19, 40)", 960, x -> x.base(19, 40));
        act("strike(0)", 4, x -> x.strike(0));
        act("strike(4)", 4, x -> x.strike(4));
        act("set(0, 9)", 1003, x -> x.set(0, 9));
        act("set(2, 20)", 998, x -> x.set(2, 20));
        act("takeBack(0)", readerOf(0, 0) + 10, x -> x.takeBack(0));
        act("takeBack(2)", 100, x -> x.takeBack(2));
        act("restore()", 94, x -> x.restore());
    }

    private void actsOnTheFirstDay() {
        act("measure(-3)", 1000, x -> x.measure(-3));
        act("base(0, 0)", 997, x -> x.base(0, 0));
        act("saint(0, 0, 0, 1)", 2, x -> x.saint(0, 0, 0, 1));
        act("strike(1)", 1, x -> x.strike(1));
        act("bet(2, true, 50)", 50, x -> x.bet(2, true, 50));
    }

    private void actsOnTheLastDay() {
        act("measure(40), which ends the year", 1040 - told(19), x -> x.measure(40));
        act("measureAll(), over the year's end", 4, x -> x.measureAll());
        act("base(19, -40)", baseOf(19), x -> x.base(19, -40));
        act("strike(0)", 0, x -> x.strike(0));
        act("takeBack(3)", 100, x -> x.takeBack(3));
        act("restore()", 0, x -> x.restore());
    }

    private MistakeAlmanac made() {
        MistakeAlmanac one = new MistakeAlmanac();
        run.accept(one);
        return one;
    }

    private int told(int day) {
        return made().dayOf(day, 1) - 1000;
    }

    private int baseOf(int day) {
        return made().dayOf(day, 0);
    }

    private int readerOf(int reader, int what) {
        return made().readerOf(reader, what);
    }

    /** What is not described as an act records nothing, and changes nothing of the state. */
    private void noActs() {
        noAct("type('7')", x -> x.type('7'));
        noAct("clearText()", x -> x.clearText());
        noAct("fault()", x -> x.fault());
        noAct("keep()", x -> x.keep());
        noAct("keep() twice", x -> {
            x.keep();
            x.keep();
        });
    }

    private void noAct(String call, Consumer<MistakeAlmanac> made) {
        int states = made().count(10);
        MistakeAlmanac one = made();
        made.accept(one);
        due.is("states behind " + call, one.count(10), states);
        due.same(call, Whole.stateBehind(run.andThen(made)), before);
        Consumer<MistakeAlmanac> old = run;
        Consumer<MistakeAlmanac> undone = run.andThen(made);
        for (int left = states - 1; left >= 0; left--) {
            old = old.andThen(x -> x.undo());
            undone = undone.andThen(x -> x.undo());
            due.same(call + ", undo() with " + left + " left", Whole.stateBehind(undone), Whole.stateBehind(old));
        }
    }
}
