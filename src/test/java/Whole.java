import java.util.ArrayList;
import java.util.List;
import java.util.function.Consumer;
import java.util.function.ToLongFunction;

/**
 * All that an almanac tells behind a run of calls. Each part is asked of a fresh object that went
 * through the same run: so no object answers more than 512 calls, and asking leaves nothing behind.
 */
final class Whole {
    private static final int ASKED_AT_ONCE = 128;
    private static final List<Ask> ASKS = new ArrayList<>();

    static {
        fillAsks();
    }

    /** One question of the face. */
    record Ask(String call, ToLongFunction<MistakeAlmanac> answer) { }

    /** One answer; the part is what was called behind the run, ahead of the question. */
    record Line(String part, String call, long answer) { }

    private Whole() {
    }

    static List<Ask> asks() {
        return ASKS;
    }

    private static void ask(String call, ToLongFunction<MistakeAlmanac> answer) {
        ASKS.add(new Ask(call, answer));
    }

    private static void fillAsks() {
        for (int i = 0; i < 16; i++) {
            int what = i;
            // The history and the text are no part of the state.
            if (what != 10 && what != 11) {
                ask("count(" + what + ")", x -> x.count(what));
            }
        }
        ask("meanMistake()", x -> Float.floatToIntBits(x.meanMistake()));
        for (int day = 0; day < 20; day++) {
            fillAsksOfDay(day);
        }
        for (int what = 0; what < 5; what++) {
            for (int i = 0; i < 5; i++) {
                fillAsksOfSaintAndReader(i, what);
            }
        }
        for (int i = 0; i < 2; i++) {
            int what = i;
            ask("bestBound(" + what + ")", x -> x.bestBound(what));
            ask("bestRate(" + what + ")", x -> x.bestRate(what));
        }
        for (int i = 0; i < 4; i++) {
            int reader = i;
            ask("ifMeasured(" + reader + ", 0)", x -> x.ifMeasured(reader, 0));
            ask("ifMeasured(" + reader + ", 1)", x -> x.ifMeasured(reader, 1));
        }
    }

    private static void fillAsksOfDay(int day) {
        for (int i = 0; i < 5; i++) {
            int what = i;
            ask("dayOf(" + day + ", " + what + ")", x -> x.dayOf(day, what));
        }
        for (int i = 0; i < 4; i++) {
            int ago = i;
            for (int k = 0; k < 2; k++) {
                int what = k;
                ask("past(" + ago + ", " + day + ", " + what + ")", x -> x.past(ago, day, what));
                ask("mean(" + ago + ", " + day + ", " + what + ")", x -> x.mean(ago, day, what));
            }
        }
        ask("nextBase(" + day + ")", x -> x.nextBase(day));
    }

    private static void fillAsksOfSaintAndReader(int number, int what) {
        ask("saintOf(" + number + ", " + what + ")", x -> x.saintOf(number, what));
        if (number < 4) {
            ask("readerOf(" + number + ", " + what + ")", x -> x.readerOf(number, what));
        }
    }

    /** The state: everything but the text, the history and the snapshot. */
    static List<Line> stateBehind(Consumer<MistakeAlmanac> run) {
        List<Line> told = new ArrayList<>();
        tellState(told, "", run);
        return told;
    }

    /** The state, and the text, the history and the snapshot. */
    static List<Line> allBehind(Consumer<MistakeAlmanac> run) {
        List<Line> told = new ArrayList<>(stateBehind(run));
        MistakeAlmanac one = made(run);
        told.add(new Line("", "count(10)", one.count(10)));
        told.add(new Line("", "count(11)", one.count(11)));
        told.add(new Line("", "fault()", one.fault()));
        told.add(new Line("", "measureAll()", one.measureAll()));
        tellState(told, "measureAll(), ", run.andThen(x -> x.measureAll()));
        told.add(new Line("", "restore()", made(run).restore()));
        tellState(told, "restore(), ", run.andThen(x -> x.restore()));
        Consumer<MistakeAlmanac> undone = run;
        String part = "";
        for (int i = 0; i < 5; i++) {
            told.add(new Line(part, "undo()", made(undone).undo()));
            undone = undone.andThen(x -> x.undo());
            part = part + "undo(), ";
            tellState(told, part, undone);
        }
        return told;
    }

    private static void tellState(List<Line> told, String part, Consumer<MistakeAlmanac> run) {
        for (int first = 0; first < ASKS.size(); first += ASKED_AT_ONCE) {
            MistakeAlmanac one = made(run);
            for (Ask ask : ASKS.subList(first, Math.min(ASKS.size(), first + ASKED_AT_ONCE))) {
                told.add(new Line(part, ask.call, ask.answer.applyAsLong(one)));
            }
        }
        told.add(new Line(part, "keep()", made(run).keep()));
    }

    private static MistakeAlmanac made(Consumer<MistakeAlmanac> run) {
        MistakeAlmanac one = new MistakeAlmanac();
        run.accept(one);
        return one;
    }

    /** The first line that differs; empty if none does. */
    static String difference(List<Line> got, List<Line> wanted) {
        for (int i = 0; i < got.size() && i < wanted.size(); i++) {
            if (!got.get(i).equals(wanted.get(i))) {
                Line line = got.get(i);
                return line.part + line.call + " answers " + line.answer + ", due is " + wanted.get(i).answer;
            }
        }
        return got.size() == wanted.size() ? "" : "a part is missing";
    }
}
