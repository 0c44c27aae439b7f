/** An almanac that predicts by averaging its own mistakes; ../shared/DOC.md says what it promises. */
public final class MistakeAlmanac {
    public static final int UNKNOWN = -1;
    public static final int BAD_VALUE = -2;
    public static final int FULL = -3;
    public static final int NOT_POSSIBLE = -4;
    public static final int NONE = -5;

    private static final int DAYS = 20;
    private static final int KNOWN_YEARS = 4;
    // The year of now stands in the same ring as the years that ended.
    private static final int RING = KNOWN_YEARS + 1;
    private static final int SAINTS = 5;
    private static final int READERS = 4;
    private static final int STATES = 4;
    private static final int TEXT_LENGTH = 60;

    private static final int WARMEST = 40;
    private static final int STRONGEST_EFFECT = 20;
    private static final int LONGEST = 9;
    private static final int MOST_COINS = 1000;
    private static final int FIRST_COINS = 100;
    private static final int MOST_IN_A_ROW = 20;
    private static final int FROST_WARMTH = 0;
    private static final int HIGHEST_RATE = 100;
    private static final int HIGHEST_BOUND = 20;

    private static final int REACH = 0;
    private static final int RATE = 1;
    private static final int BOUND = 2;
    private static final int ODDS = 3;
    private static final int SETTINGS = 4;
    private static final int[] LOWEST_SETTINGS = {0, 0, -20, 1};
    private static final int[] HIGHEST_SETTINGS = {9, 100, 20, 9};
    private static final int[] FIRST_SETTINGS = {2, 50, 0, 2};

    // What can be below 0 is told with an offset, so that no answer is taken for an error.
    private static final int OFFSET = 1000;
    private static final int PURSE_OFFSET = 100000;
    private static final int FAULT_OFFSET = -100;

    private final DayText text;
    private final State[] history;
    private final State snapshot;
    private final int[] means;
    private State now;
    private int historySize;
    private boolean kept;

    public MistakeAlmanac() {
        text = new DayText();
        history = new State[STATES];
        for (int i = 0; i < STATES; i++) {
            history[i] = new State();
        }
        snapshot = new State();
        means = new int[DAYS];
        now = new State();
        historySize = 0;
        kept = false;
    }

    // ---- days

    public int measure(int warmth) {
        if (!isWithin(warmth, WARMEST)) {
            return BAD_VALUE;
        }
        remember();
        return now.passDay(warmth) + OFFSET;
    }

    public int measureAll() {
        int fault = text.findFault();
        if (fault != NONE) {
            return FAULT_OFFSET - fault;
        }
        remember();
        int before = now.measured;
        text.goToStart();
        for (int entry = 0; entry < TEXT_LENGTH && text.readEntry(); entry++) {
            for (int i = 0; i < text.inARow; i++) {
                now.passDay(text.warmth);
            }
            text.skipSeparator();
        }
        return now.measured - before;
    }

    public int base(int day, int base) {
        if (!isIndex(day, DAYS)) {
            return UNKNOWN;
        }
        if (!isWithin(base, WARMEST)) {
            return BAD_VALUE;
        }
        if (day < now.day) {
            return NOT_POSSIBLE;
        }
        int previous = now.yearOfNow().bases[day];
        if (previous == base) {
            return NONE;
        }
        remember();
        now.yearOfNow().bases[day] = base;
        return previous + OFFSET;
    }

    public int saint(int feast, int bound, int effect, int length) {
        if (!isIndex(feast, DAYS)) {
            return UNKNOWN;
        }
        if (!isWithin(bound, WARMEST) || !isWithin(effect, STRONGEST_EFFECT)
                || length < 1 || length > LONGEST) {
            return BAD_VALUE;
        }
        if (now.saintCount >= SAINTS) {
            return FULL;
        }
        remember();
        Saint added = now.saints[now.saintCount];
        added.feast = feast;
        added.bound = bound;
        added.effect = effect;
        added.length = length;
        now.saintCount++;
        return now.saintCount - 1;
    }

    public int strike(int saint) {
        if (!isIndex(saint, now.saintCount)) {
            return UNKNOWN;
        }
        remember();
        now.removeSaint(saint);
        return now.saintCount;
    }

    public int set(int which, int value) {
        if (!isIndex(which, SETTINGS)
                || value < LOWEST_SETTINGS[which] || value > HIGHEST_SETTINGS[which]) {
            return BAD_VALUE;
        }
        int previous = now.settings[which];
        if (previous == value) {
            return NONE;
        }
        remember();
        now.settings[which] = value;
        return previous + OFFSET;
    }

    // ---- bets

    public int bet(int reader, boolean frost, int coins) {
        if (!isIndex(reader, READERS)) {
            return UNKNOWN;
        }
        if (coins < 1 || coins > MOST_COINS) {
            return BAD_VALUE;
        }
        if (now.readers[reader].coins > 0 || now.readers[reader].purse < coins) {
            return NOT_POSSIBLE;
        }
        remember();
        Reader better = now.readers[reader];
        better.purse -= coins;
        better.coins = coins;
        better.onFrost = frost;
        return better.purse;
    }

    public int takeBack(int reader) {
        if (!isIndex(reader, READERS)) {
            return UNKNOWN;
        }
        if (now.readers[reader].coins == 0) {
            return NONE;
        }
        remember();
        Reader better = now.readers[reader];
        better.purse += better.coins;
        better.dropBet();
        return better.purse;
    }

    // ---- texts

    public int type(char character) {
        if (text.length >= TEXT_LENGTH) {
            return FULL;
        }
        text.characters[text.length] = character;
        text.length++;
        return text.length;
    }

    public int clearText() {
        int length = text.length;
        text.length = 0;
        return length;
    }

    public int fault() {
        return text.findFault();
    }

    // ---- history

    public int undo() {
        if (historySize == 0) {
            return NONE;
        }
        historySize--;
        // The two change places, so that no row is made or copied.
        State left = now;
        now = history[historySize];
        history[historySize] = left;
        return historySize;
    }

    public int keep() {
        snapshot.copyFrom(now);
        kept = true;
        return now.measured;
    }

    public int restore() {
        if (!kept) {
            return NONE;
        }
        remember();
        now.copyFrom(snapshot);
        return now.measured;
    }

    // ---- what is told

    public int dayOf(int day, int what) {
        if (!isIndex(day, DAYS)) {
            return UNKNOWN;
        }
        Year year = now.yearOfNow();
        boolean measured = day < now.day;
        switch (what) {
            case 0:
                return year.bases[day] + OFFSET;
            case 1:
                return now.foretoldOf(day) + OFFSET;
            case 2:
                return measured ? year.warmths[day] + OFFSET : NONE;
            case 3:
                return measured ? year.mistakes[day] + OFFSET : NONE;
            case 4:
                return oneIf(now.isFrostForetold(now.foretoldOf(day)));
            default:
                return BAD_VALUE;
        }
    }

    public int past(int ago, int day, int what) {
        if (!isIndex(ago, now.knownYears()) || !isIndex(day, DAYS)) {
            return UNKNOWN;
        }
        Year year = now.endedYear(ago);
        switch (what) {
            case 0:
                return year.warmths[day] + OFFSET;
            case 1:
                return year.mistakes[day] + OFFSET;
            default:
                return BAD_VALUE;
        }
    }

    public int mean(int ago, int day, int way) {
        if (!isIndex(ago, now.knownYears()) || !isIndex(day, DAYS)) {
            return UNKNOWN;
        }
        Year year = now.endedYear(ago);
        switch (way) {
            case 0:
                return year.meanByDays(day, now.settings[REACH]) + OFFSET;
            case 1:
                return year.meanBySums(day, now.settings[REACH]) + OFFSET;
            default:
                return BAD_VALUE;
        }
    }

    public int saintOf(int saint, int what) {
        if (!isIndex(saint, now.saintCount)) {
            return UNKNOWN;
        }
        Saint asked = now.saints[saint];
        switch (what) {
            case 0:
                return asked.feast;
            case 1:
                return asked.bound + OFFSET;
            case 2:
                return asked.effect + OFFSET;
            case 3:
                return asked.length;
            case 4:
                return oneIf(now.isTelling(asked));
            default:
                return BAD_VALUE;
        }
    }

    public int readerOf(int reader, int what) {
        if (!isIndex(reader, READERS)) {
            return UNKNOWN;
        }
        Reader asked = now.readers[reader];
        switch (what) {
            case 0:
                return asked.purse;
            case 1:
                return asked.coins;
            case 2:
                return oneIf(asked.onFrost);
            case 3:
                return asked.won;
            case 4:
                return asked.lost;
            default:
                return BAD_VALUE;
        }
    }

    public int count(int what) {
        switch (what) {
            case 0:
                return now.year;
            case 1:
                return now.day;
            case 2:
                return now.knownYears();
            case 3:
                return now.saintCount;
            case 4:
                return now.hits;
            case 5:
                return now.misses;
            case 6:
                return now.falseAlarms;
            case 7:
                return now.yearOfNow().sumWithoutSigns;
            case 8:
                return now.knownYears() > 0 ? now.endedYear(0).sumWithoutSigns : NONE;
            case 9:
                return now.purse + PURSE_OFFSET;
            case 10:
                return historySize;
            case 11:
                return text.length;
            case 12:
                return now.settings[REACH] + OFFSET;
            case 13:
                return now.settings[RATE] + OFFSET;
            case 14:
                return now.settings[BOUND] + OFFSET;
            case 15:
                return now.settings[ODDS] + OFFSET;
            default:
                return BAD_VALUE;
        }
    }

    public float meanMistake() {
        // A new almanac has no days to divide by.
        if (now.measured == 0) {
            return 0.0f;
        }
        return (float) now.sumWithoutSigns / (float) now.measured;
    }

    // ---- what would be

    public int nextBase(int day) {
        if (!isIndex(day, DAYS)) {
            return UNKNOWN;
        }
        // Days that are not measured stand in the year with the mistake 0.
        Year year = now.yearOfNow();
        int mean = year.meanByDays(day, now.settings[REACH]);
        return mended(year.bases[day], mean, now.settings[RATE]) + OFFSET;
    }

    public int bestBound(int what) {
        if (what != 0 && what != 1) {
            return BAD_VALUE;
        }
        if (now.knownYears() == 0) {
            return NONE;
        }
        Year year = now.endedYear(0);
        int best = 0;
        int fewest = year.wrongFrosts(0);
        // From 0 outwards, the lower one first: so only fewer ones replace the best.
        for (int distance = 1; distance <= HIGHEST_BOUND; distance++) {
            int below = year.wrongFrosts(-distance);
            if (below < fewest) {
                fewest = below;
                best = -distance;
            }
            int above = year.wrongFrosts(distance);
            if (above < fewest) {
                fewest = above;
                best = distance;
            }
        }
        return what == 0 ? best + OFFSET : fewest;
    }

    public int bestRate(int what) {
        if (what != 0 && what != 1) {
            return BAD_VALUE;
        }
        if (now.knownYears() < 2) {
            return NONE;
        }
        Year before = now.endedYear(1);
        Year latest = now.endedYear(0);
        // The means do not depend on the rate: they are found once for all rates.
        for (int day = 0; day < DAYS; day++) {
            means[day] = before.meanByDays(day, now.settings[REACH]);
        }
        int best = 0;
        int least = sumWithRate(before, latest, 0);
        for (int rate = 1; rate <= HIGHEST_RATE; rate++) {
            int sum = sumWithRate(before, latest, rate);
            if (sum < least) {
                least = sum;
                best = rate;
            }
        }
        return what == 0 ? best : least;
    }

    public int ifMeasured(int reader, int warmth) {
        if (!isIndex(reader, READERS)) {
            return UNKNOWN;
        }
        if (!isWithin(warmth, WARMEST)) {
            return BAD_VALUE;
        }
        Reader asked = now.readers[reader];
        boolean foretold = now.isFrostForetold(now.foretoldOf(now.day));
        return asked.purse + asked.coins
                + asked.winnings(isFrost(warmth), foretold, now.settings[ODDS]);
    }

    // ---- behind the face

    /** Puts the state of now into the history; acts call it when nothing can hinder them any more. */
    private void remember() {
        if (historySize == STATES) {
            // The row of the oldest state, which is dropped, is used again for the latest.
            State oldest = history[0];
            for (int i = 1; i < STATES; i++) {
                history[i - 1] = history[i];
            }
            history[STATES - 1] = oldest;
            historySize--;
        }
        history[historySize].copyFrom(now);
        historySize++;
    }

    private int sumWithRate(Year before, Year latest, int rate) {
        int sum = 0;
        for (int day = 0; day < DAYS; day++) {
            sum += Math.abs(latest.warmths[day] - mended(before.bases[day], means[day], rate));
        }
        return sum;
    }

    private static boolean isIndex(int index, int size) {
        return index >= 0 && index < size;
    }

    private static boolean isWithin(int value, int farthest) {
        return value >= -farthest && value <= farthest;
    }

    private static boolean isFrost(int warmth) {
        return warmth <= FROST_WARMTH;
    }

    private static int oneIf(boolean condition) {
        return condition ? 1 : 0;
    }

    private static int clampWarmth(int warmth) {
        return Math.max(-WARMEST, Math.min(WARMEST, warmth));
    }

    private static int mended(int base, int mean, int rate) {
        return clampWarmth(base + mean * rate / 100);
    }

    /** A year: the one of now, or one that ended. */
    private static final class Year {
        final int[] bases;
        final int[] foretold;
        final int[] warmths;
        // 0 for days that are not measured: so they weigh nothing in sums.
        final int[] mistakes;
        int sumWithoutSigns;

        Year() {
            bases = new int[DAYS];
            foretold = new int[DAYS];
            warmths = new int[DAYS];
            mistakes = new int[DAYS];
            sumWithoutSigns = 0;
        }

        void copyFrom(Year other) {
            System.arraycopy(other.bases, 0, bases, 0, DAYS);
            System.arraycopy(other.foretold, 0, foretold, 0, DAYS);
            System.arraycopy(other.warmths, 0, warmths, 0, DAYS);
            System.arraycopy(other.mistakes, 0, mistakes, 0, DAYS);
            sumWithoutSigns = other.sumWithoutSigns;
        }

        /** Its rows held an older year before; foretellings and warmths are written before they are read. */
        void beginBehind(Year ended, int reach, int rate) {
            for (int day = 0; day < DAYS; day++) {
                bases[day] = mended(ended.bases[day], ended.meanByDays(day, reach), rate);
                mistakes[day] = 0;
            }
            sumWithoutSigns = 0;
        }

        int meanByDays(int day, int reach) {
            int first = Math.max(0, day - reach);
            int last = Math.min(DAYS - 1, day + reach);
            int sum = 0;
            int days = 0;
            for (int i = first; i <= last; i++) {
                sum += mistakes[i];
                days++;
            }
            return days > 0 ? sum / days : 0;
        }

        int meanBySums(int day, int reach) {
            int first = Math.max(0, day - reach);
            int last = Math.min(DAYS - 1, day + reach);
            int days = last - first + 1;
            int sum = sumBefore(last + 1) - sumBefore(first);
            return days > 0 ? sum / days : 0;
        }

        private int sumBefore(int day) {
            int sum = 0;
            for (int i = 0; i < day && i < DAYS; i++) {
                sum += mistakes[i];
            }
            return sum;
        }

        /** Misses and false alarms that another bound would have brought. */
        int wrongFrosts(int bound) {
            int wrong = 0;
            for (int day = 0; day < DAYS; day++) {
                if (isFrost(warmths[day]) != (foretold[day] <= bound)) {
                    wrong++;
                }
            }
            return wrong;
        }
    }

    private static final class Saint {
        int feast;
        int bound;
        int effect;
        int length;

        void copyFrom(Saint other) {
            feast = other.feast;
            bound = other.bound;
            effect = other.effect;
            length = other.length;
        }

        boolean reaches(int day) {
            return day > feast && day <= feast + length;
        }
    }

    private static final class Reader {
        int purse;
        // 0 without a bet.
        int coins;
        boolean onFrost;
        int won;
        int lost;

        void copyFrom(Reader other) {
            purse = other.purse;
            coins = other.coins;
            onFrost = other.onFrost;
            won = other.won;
            lost = other.lost;
        }

        /** What the almanac pays for the bet beside the coins: below 0 if it gets them. */
        int winnings(boolean frost, boolean foretold, int odds) {
            if (frost != onFrost) {
                return -coins;
            }
            return foretold != onFrost ? coins * odds : coins;
        }

        void dropBet() {
            coins = 0;
            onFrost = false;
        }
    }

    /** All that undo and the snapshot bring back. */
    private static final class State {
        final int[] settings;
        // The year numbered n stands at n % RING.
        final Year[] years;
        final Saint[] saints;
        final Reader[] readers;
        int saintCount;
        int year;
        int day;
        int measured;
        int sumWithoutSigns;
        int hits;
        int misses;
        int falseAlarms;
        int purse;

        State() {
            settings = new int[SETTINGS];
            System.arraycopy(FIRST_SETTINGS, 0, settings, 0, SETTINGS);
            years = new Year[RING];
            for (int i = 0; i < RING; i++) {
                years[i] = new Year();
            }
            saints = new Saint[SAINTS];
            for (int i = 0; i < SAINTS; i++) {
                saints[i] = new Saint();
            }
            readers = new Reader[READERS];
            for (int i = 0; i < READERS; i++) {
                readers[i] = new Reader();
                readers[i].purse = FIRST_COINS;
            }
        }

        void copyFrom(State other) {
            System.arraycopy(other.settings, 0, settings, 0, SETTINGS);
            for (int i = 0; i < RING; i++) {
                years[i].copyFrom(other.years[i]);
            }
            for (int i = 0; i < SAINTS; i++) {
                saints[i].copyFrom(other.saints[i]);
            }
            for (int i = 0; i < READERS; i++) {
                readers[i].copyFrom(other.readers[i]);
            }
            saintCount = other.saintCount;
            year = other.year;
            day = other.day;
            measured = other.measured;
            sumWithoutSigns = other.sumWithoutSigns;
            hits = other.hits;
            misses = other.misses;
            falseAlarms = other.falseAlarms;
            purse = other.purse;
        }

        Year yearOfNow() {
            return years[year % RING];
        }

        int knownYears() {
            return Math.min(year, KNOWN_YEARS);
        }

        /** The caller has looked that ago is below knownYears(). */
        Year endedYear(int ago) {
            return years[(year - 1 - ago) % RING];
        }

        boolean isTelling(Saint saint) {
            return saint.feast < day && yearOfNow().warmths[saint.feast] <= saint.bound;
        }

        int foretoldOf(int asked) {
            if (asked < day) {
                return yearOfNow().foretold[asked];
            }
            int told = yearOfNow().bases[asked];
            for (int i = 0; i < saintCount; i++) {
                if (saints[i].reaches(asked) && isTelling(saints[i])) {
                    told += saints[i].effect;
                }
            }
            return clampWarmth(told);
        }

        boolean isFrostForetold(int told) {
            return told <= settings[BOUND];
        }

        void removeSaint(int struck) {
            for (int i = struck + 1; i < saintCount; i++) {
                saints[i - 1].copyFrom(saints[i]);
            }
            saintCount--;
        }

        /** Measures the next day, and ends the year behind its last one; answers the mistake. */
        int passDay(int warmth) {
            Year current = yearOfNow();
            int told = foretoldOf(day);
            int mistake = warmth - told;
            current.foretold[day] = told;
            current.warmths[day] = warmth;
            current.mistakes[day] = mistake;
            current.sumWithoutSigns += Math.abs(mistake);
            sumWithoutSigns += Math.abs(mistake);
            countFrost(isFrost(warmth), isFrostForetold(told));
            settleBets(isFrost(warmth), isFrostForetold(told));
            measured++;
            day++;
            if (day == DAYS) {
                endYear();
            }
            return mistake;
        }

        private void countFrost(boolean frost, boolean foretold) {
            if (frost && foretold) {
                hits++;
            } else if (frost) {
                misses++;
            } else if (foretold) {
                falseAlarms++;
            }
        }

        private void settleBets(boolean frost, boolean foretold) {
            for (int i = 0; i < READERS; i++) {
                Reader reader = readers[i];
                if (reader.coins > 0) {
                    int winnings = reader.winnings(frost, foretold, settings[ODDS]);
                    purse -= winnings;
                    reader.purse += reader.coins + winnings;
                    if (winnings > 0) {
                        reader.won++;
                    } else {
                        reader.lost++;
                    }
                    reader.dropBet();
                }
            }
        }

        private void endYear() {
            Year ended = yearOfNow();
            year++;
            day = 0;
            yearOfNow().beginBehind(ended, settings[REACH], settings[RATE]);
        }
    }

    /** The text that is typed, and what is read from it, entry by entry. */
    private static final class DayText {
        final char[] characters;
        int length;
        // Where reading stands: the fault, when reading fails.
        private int place;
        private int number;
        int warmth;
        int inARow;

        DayText() {
            characters = new char[TEXT_LENGTH];
            length = 0;
            place = 0;
        }

        void goToStart() {
            place = 0;
        }

        int findFault() {
            goToStart();
            for (int entry = 0; entry < TEXT_LENGTH; entry++) {
                if (!readEntry()) {
                    return place;
                }
                if (place >= length) {
                    return NONE;
                }
                if (!isAtPlace(';')) {
                    return place;
                }
                skipSeparator();
            }
            return place;
        }

        /** Reads a warmth, and how many days have it; false if there is none at this place. */
        boolean readEntry() {
            boolean below = isAtPlace('-');
            if (below) {
                place++;
            }
            if (!readNumber(below ? 1 : 0, WARMEST)) {
                return false;
            }
            warmth = below ? -number : number;
            inARow = 1;
            if (isAtPlace('*')) {
                place++;
                if (!readNumber(1, MOST_IN_A_ROW)) {
                    return false;
                }
                inARow = number;
            }
            return true;
        }

        void skipSeparator() {
            if (isAtPlace(';')) {
                place++;
            }
        }

        private boolean isAtPlace(char wanted) {
            return place < length && characters[place] == wanted;
        }

        private int digitAtPlace() {
            if (place >= length || characters[place] < '0' || characters[place] > '9') {
                return NONE;
            }
            return characters[place] - '0';
        }

        /** Reads a number; a digit behind a 0 is left, and is a fault for who reads on. */
        private boolean readNumber(int lowest, int highest) {
            int digit = digitAtPlace();
            if (digit == NONE || digit < lowest) {
                return false;
            }
            number = digit;
            place++;
            for (int i = place; i < length && number > 0; i++) {
                digit = digitAtPlace();
                if (digit == NONE) {
                    return true;
                }
                if (number * 10 + digit > highest) {
                    return false;
                }
                number = number * 10 + digit;
                place++;
            }
            return true;
        }
    }
}
