import java.util.List;

/** Counts the checks of one test, and prints every answer that is not the one that is due. */
final class Due {
    private int checks = 0;
    private int wrong = 0;
    private String place = "";

    void at(String newPlace) {
        place = newPlace;
    }

    void is(String call, long got, long want) {
        checks++;
        if (got != want) {
            tell(call + " answered " + got + ", due is " + want);
        }
    }

    void isFloat(String call, float got, float want) {
        checks++;
        if (Float.floatToIntBits(got) != Float.floatToIntBits(want)) {
            tell(call + " answered " + got + ", due is " + want);
        }
    }

    void same(String what, List<Whole.Line> got, List<Whole.Line> wanted) {
        checks++;
        String difference = Whole.difference(got, wanted);
        if (!difference.isEmpty()) {
            tell(what + ": " + difference);
        }
    }

    void holds(String what, boolean condition) {
        checks++;
        if (!condition) {
            tell(what + " does not hold");
        }
    }

    boolean hasWrong() {
        return wrong > 0;
    }

    private void tell(String line) {
        wrong++;
        // One broken promise can make thousands of wrong answers; the first ones tell enough.
        if (wrong <= 40) {
            System.out.println(place + ": " + line);
        }
    }

    void end(String name) {
        System.out.println(name + ": " + checks + " checks, " + wrong + " wrong");
        if (wrong != 0 || checks == 0) {
            System.exit(1);
        }
    }
}
