import java.util.function.Consumer;
import java.util.function.IntUnaryOperator;
import java.util.function.ToIntBiFunction;

/** What the tests share that play scenes on an almanac: the object of now, and the answers that are due. */
abstract class Scene {
    static final int UNKNOWN = -1;
    static final int BAD_VALUE = -2;
    static final int FULL = -3;
    static final int NOT_POSSIBLE = -4;
    static final int NONE = -5;

    final Due due = new Due();
    MistakeAlmanac x;

    final void fresh(String place) {
        due.at(place);
        x = new MistakeAlmanac();
    }

    /** A fresh object for the same sentence: an object answers no more than 512 calls. */
    final void again() {
        x = new MistakeAlmanac();
    }

    final void write(String text) {
        x.clearText();
        for (int i = 0; i < text.length(); i++) {
            due.is("type " + text.charAt(i), x.type(text.charAt(i)), i + 1);
        }
    }

    final void measureText(String text, int days) {
        write(text);
        due.is("measureAll() of " + text, x.measureAll(), days);
    }

    /** Years of the same base as now, whatever their mistakes are. */
    final void keepBases() {
        x.set(1, 0);
    }

    final void isTold(int day, int foretold) {
        due.is("dayOf(" + day + ", 1)", x.dayOf(day, 1), foretold + 1000);
    }

    final void isBase(int day, int base) {
        due.is("dayOf(" + day + ", 0)", x.dayOf(day, 0), base + 1000);
    }

    final void isCount(int what, int wanted) {
        due.is("count(" + what + ")", x.count(what), wanted);
    }

    static void everyBase(MistakeAlmanac x, int base) {
        for (int day = 0; day < 20; day++) {
            x.base(day, base);
        }
    }

    static void type(MistakeAlmanac x, String text) {
        for (int i = 0; i < text.length(); i++) {
            x.type(text.charAt(i));
        }
    }

    /** Asks for every value near the range and for some far beyond it, each of a fresh object. */
    final void range(String call, int low, int high, int refusal, Consumer<MistakeAlmanac> before,
            ToIntBiFunction<MistakeAlmanac, Integer> asked, IntUnaryOperator wanted) {
        for (int value = low - 70; value <= high + 70; value++) {
            ask(call, value, value < low || value > high ? refusal : wanted.applyAsInt(value), before, asked);
        }
        // Values that a narrower type or an overflow would bring back into the range.
        for (int bit = 7; bit < 32; bit++) {
            for (int near = -1; near <= 1; near++) {
                askBeyond(call, low, high, (1 << bit) + near, refusal, before, asked);
                askBeyond(call, low, high, (1 << bit) + low + near, refusal, before, asked);
                askBeyond(call, low, high, -(1 << bit) + high + near, refusal, before, asked);
            }
        }
        ask(call, Integer.MIN_VALUE, refusal, before, asked);
        ask(call, Integer.MAX_VALUE, refusal, before, asked);
    }

    private void askBeyond(String call, int low, int high, int value, int refusal,
            Consumer<MistakeAlmanac> before, ToIntBiFunction<MistakeAlmanac, Integer> asked) {
        if (value < low || value > high) {
            ask(call, value, refusal, before, asked);
        }
    }

    private void ask(String call, int value, int wanted, Consumer<MistakeAlmanac> before,
            ToIntBiFunction<MistakeAlmanac, Integer> asked) {
        MistakeAlmanac one = new MistakeAlmanac();
        before.accept(one);
        due.is(call + " with " + value, asked.applyAsInt(one, value), wanted);
    }
}
