import java.util.function.Consumer;

/** Runs of calls that lead to an almanac at an end of what can be empty or full. */
final class Almanacs {
    /** Ahead of day 0 of year 0: no history, no snapshot, no text, no saints, no bets. */
    static final Consumer<MistakeAlmanac> NEW = x -> { };

    /**
     * Five saints, four states, a snapshot, four known years of more that ended, a text of 60
     * characters that ends too early. Day 15 is next; reader 0 and 3 have bet, reader 1 is out of
     * coins, reader 2 has bet all.
     */
    static final Consumer<MistakeAlmanac> FULL = x -> {
        x.saint(0, 5, 7, 9);
        x.saint(3, -1, -4, 5);
        x.saint(13, 40, 20, 9);
        x.saint(13, 40, -18, 1);
        x.saint(19, 0, 1, 1);
        x.set(0, 3);
        x.set(1, 80);
        x.set(3, 5);
        Scene.type(x, "-3*7;9*20;0*20;-12*20;5*20;40*2;-1*4;1");
        x.measureAll();
        x.keep();
        x.base(19, -40);
        x.base(18, 40);
        x.set(2, -2);
        x.bet(0, true, 30);
        x.bet(1, false, 100);
        x.measure(-5);
        x.bet(0, true, 10);
        x.bet(2, false, 100);
        x.bet(3, true, 1);
        x.clearText();
        Scene.type(x, "0;0;0;0;0;0;0;0;0;0;0;0;0;0;0;0;0;0;0;0;0;0;0;0;0;0;0;0;0;0;");
    };

    /**
     * The first day of a year is next, two years ended; two saints, no bets, a history that was
     * emptied by undo(), no snapshot, a text with a fault at 3.
     */
    static final Consumer<MistakeAlmanac> FIRST_DAY = x -> {
        x.saint(2, -40, 9, 9);
        x.saint(17, -40, -9, 9);
        Scene.type(x, "3*20;-7*20");
        x.measureAll();
        x.clearText();
        Scene.type(x, "5;41");
        for (int value = 3; value <= 6; value++) {
            x.set(0, value);
        }
        for (int i = 0; i < 4; i++) {
            x.undo();
        }
    };

    /**
     * The last day of a year is next, one year ended; one saint, all readers have bet, a history
     * of two states, a snapshot of the new almanac, a text of days.
     */
    static final Consumer<MistakeAlmanac> LAST_DAY = x -> {
        x.keep();
        Scene.type(x, "-1;2*18;-3;4*18;-40");
        x.measureAll();
        x.clearText();
        Scene.type(x, "1;2*3");
        x.saint(18, 40, 3, 1);
        for (int reader = 0; reader < 4; reader++) {
            x.bet(reader, reader % 2 == 0, 10 + reader);
        }
        for (int value = 3; value <= 5; value++) {
            x.set(3, value);
        }
        x.undo();
        x.undo();
    };

    private Almanacs() {
    }
}
