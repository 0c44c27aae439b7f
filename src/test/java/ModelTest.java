import java.util.Random;

/** Random runs of calls, always the same ones, on the almanac and on the model side by side. */
public final class ModelTest {
    private static final int RUNS = 1500;
    // The document promises nothing about an object after its 512th call.
    private static final int CALLS = 512;
    // One act makes this many calls at most, but for the typing of days, which looks itself.
    private static final int CALLS_OF_AN_ACT = 5;
    private static final int EXTREME = 25;
    private static final String SIGNS = "0123456789-*;";

    private final Due due = new Due();
    private Random random;
    private MistakeAlmanac almanac;
    private Model model;
    private int made;

    public static void main(String[] args) {
        ModelTest test = new ModelTest();
        for (int run = 0; run < RUNS && !test.due.hasWrong(); run++) {
            test.run(run);
        }
        test.due.end("ModelTest");
    }

    private void run(int number) {
        random = new Random(number);
        almanac = new MistakeAlmanac();
        model = new Model();
        made = 0;
        while (made <= CALLS - CALLS_OF_AN_ACT) {
            due.at("run " + number + ", call " + made);
            if (random.nextInt(3) == 0) {
                ask();
            } else {
                act();
            }
        }
    }

    private void is(String call, int got, int want) {
        made++;
        due.is(call, got, want);
    }

    /** From low to high, and now and then beyond. */
    private int about(int low, int high) {
        int kind = random.nextInt(EXTREME);
        if (kind == 0) {
            return low - 1;
        }
        if (kind == 1) {
            return high + 1;
        }
        if (kind == 2) {
            return random.nextBoolean() ? Integer.MIN_VALUE : Integer.MAX_VALUE;
        }
        if (kind < 6) {
            return random.nextBoolean() ? low : high;
        }
        return low + random.nextInt(high - low + 1);
    }

    private int aboutWarmth() {
        return random.nextInt(3) == 0 ? about(-3, 3) : about(-40, 40);
    }

    private void act() {
        int kind = random.nextInt(40);
        if (kind < 14) {
            int warmth = aboutWarmth();
            is("measure(" + warmth + ")", almanac.measure(warmth), model.measure(warmth));
        } else if (kind < 16) {
            is("measureAll()", almanac.measureAll(), model.measureAll());
        } else if (kind < 20) {
            int day = about(0, 19);
            int base = aboutWarmth();
            is("base(" + day + ", " + base + ")", almanac.base(day, base), model.base(day, base));
        } else if (kind < 22) {
            addSaint();
        } else if (kind < 23) {
            int saint = about(0, 4);
            is("strike(" + saint + ")", almanac.strike(saint), model.strike(saint));
        } else if (kind < 26) {
            set();
        } else if (kind < 30) {
            int reader = about(0, 3);
            boolean frost = random.nextBoolean();
            int coins = random.nextBoolean() ? about(1, 100) : about(1, 1000);
            is("bet(" + reader + ", " + frost + ", " + coins + ")",
                    almanac.bet(reader, frost, coins), model.bet(reader, frost, coins));
        } else if (kind < 31) {
            int reader = about(0, 3);
            is("takeBack(" + reader + ")", almanac.takeBack(reader), model.takeBack(reader));
        } else if (kind < 35) {
            write();
        } else if (kind < 38) {
            is("undo()", almanac.undo(), model.undo());
        } else if (random.nextBoolean()) {
            is("keep()", almanac.keep(), model.keep());
        } else {
            is("restore()", almanac.restore(), model.restore());
        }
    }

    private void addSaint() {
        int feast = about(0, 19);
        int bound = about(-40, 40);
        int effect = about(-20, 20);
        int length = about(1, 9);
        is("saint(" + feast + ", " + bound + ", " + effect + ", " + length + ")",
                almanac.saint(feast, bound, effect, length), model.saint(feast, bound, effect, length));
    }

    private void set() {
        int which = about(0, 3);
        int[][] ranges = {{0, 9}, {0, 100}, {-20, 20}, {1, 9}};
        int[] range = which < 0 || which > 3 ? ranges[0] : ranges[which];
        int value = about(range[0], range[1]);
        is("set(" + which + ", " + value + ")", almanac.set(which, value), model.set(which, value));
    }

    private void write() {
        int kind = random.nextInt(5);
        if (kind < 2) {
            is("clearText()", almanac.clearText(), model.clearText());
        }
        if (kind == 0) {
            int signs = random.nextInt(4);
            for (int i = 0; i < signs; i++) {
                type(random.nextInt(12) == 0 ? (char) random.nextInt(65536)
                        : SIGNS.charAt(random.nextInt(SIGNS.length())));
            }
        } else if (kind < 4) {
            typeDays(1 + random.nextInt(3));
        } else if (random.nextInt(4) == 0) {
            typeDays(30);
        }
        is("fault()", almanac.fault(), model.fault());
    }

    private void typeDays(int entries) {
        StringBuilder line = new StringBuilder();
        for (int i = 0; i < entries; i++) {
            line.append(i == 0 ? "" : ";").append(random.nextInt(83) - 41);
            if (random.nextInt(3) == 0) {
                line.append('*').append(1 + random.nextInt(20));
            }
        }
        if (model.count(11) > 0 && model.fault() == Model.NONE) {
            line.insert(0, ';');
        }
        if (random.nextInt(8) == 0) {
            line.setCharAt(random.nextInt(line.length()), SIGNS.charAt(random.nextInt(SIGNS.length())));
        }
        for (int i = 0; i < line.length() && made < CALLS - 1; i++) {
            type(line.charAt(i));
        }
    }

    private void type(char sign) {
        is("type((char) " + (int) sign + ")", almanac.type(sign), model.type(sign));
    }

    private void ask() {
        int what = about(0, 4);
        switch (random.nextInt(13)) {
            case 0: case 1: {
                int day = about(0, 19);
                is("dayOf(" + day + ", " + what + ")", almanac.dayOf(day, what), model.dayOf(day, what));
                break;
            }
            case 2: {
                int ago = about(0, 3);
                int day = about(0, 19);
                int way = about(0, 1);
                is("past(" + ago + ", " + day + ", " + way + ")",
                        almanac.past(ago, day, way), model.past(ago, day, way));
                break;
            }
            case 3: {
                int ago = about(0, 3);
                int day = about(0, 19);
                int way = about(0, 1);
                is("mean(" + ago + ", " + day + ", " + way + ")",
                        almanac.mean(ago, day, way), model.mean(ago, day, way));
                break;
            }
            case 4: {
                int saint = about(0, 4);
                is("saintOf(" + saint + ", " + what + ")",
                        almanac.saintOf(saint, what), model.saintOf(saint, what));
                break;
            }
            case 5: {
                int reader = about(0, 3);
                is("readerOf(" + reader + ", " + what + ")",
                        almanac.readerOf(reader, what), model.readerOf(reader, what));
                break;
            }
            case 6: case 7: {
                int number = about(0, 15);
                is("count(" + number + ")", almanac.count(number), model.count(number));
                break;
            }
            case 8:
                made++;
                due.isFloat("meanMistake()", almanac.meanMistake(), model.meanMistake());
                break;
            case 9: {
                int day = about(0, 19);
                is("nextBase(" + day + ")", almanac.nextBase(day), model.nextBase(day));
                break;
            }
            case 10: {
                int way = about(0, 1);
                is("bestBound(" + way + ")", almanac.bestBound(way), model.bestBound(way));
                break;
            }
            case 11: {
                int way = about(0, 1);
                is("bestRate(" + way + ")", almanac.bestRate(way), model.bestRate(way));
                break;
            }
            default: {
                int reader = about(0, 3);
                int warmth = aboutWarmth();
                is("ifMeasured(" + reader + ", " + warmth + ")",
                        almanac.ifMeasured(reader, warmth), model.ifMeasured(reader, warmth));
            }
        }
    }
}
