import java.util.ArrayList;
import java.util.Arrays;
import java.util.List;
import java.util.regex.Matcher;
import java.util.regex.Pattern;

/**
 * A second almanac, written from the document another way: it keeps every day that was ever
 * measured in one list, counts all numbers anew from it, and copies whole states.
 */
final class Model {
    static final int UNKNOWN = -1;
    static final int BAD_VALUE = -2;
    static final int FULL = -3;
    static final int NOT_POSSIBLE = -4;
    static final int NONE = -5;

    private static final String ENTRY = "(0|-?(40|[123][0-9]|[1-9]))(\\*(20|1[0-9]|[1-9]))?";
    private static final Pattern DAYS = Pattern.compile(ENTRY + "(;" + ENTRY + ")*");
    private static final int[][] RANGES = {{0, 9}, {0, 100}, {-20, 20}, {1, 9}};

    private record Day(int warmth, int told, boolean frost, boolean foretold) {
        int mistake() {
            return warmth - told;
        }
    }

    private record Saint(int feast, int bound, int effect, int length) { }

    private record Bet(int coins, boolean frost) { }

    private static final class State {
        List<Day> days = new ArrayList<>();
        List<int[]> endedBases = new ArrayList<>();
        int[] bases = new int[20];
        int[] settings = {2, 50, 0, 2};
        List<Saint> saints = new ArrayList<>();
        Bet[] bets = new Bet[4];
        int[] purses = {100, 100, 100, 100};
        int[] won = new int[4];
        int[] lost = new int[4];
        int purse = 0;

        State copy() {
            State other = new State();
            other.days.addAll(days);
            other.endedBases.addAll(endedBases);
            other.bases = bases.clone();
            other.settings = settings.clone();
            other.saints.addAll(saints);
            other.bets = bets.clone();
            other.purses = purses.clone();
            other.won = won.clone();
            other.lost = lost.clone();
            other.purse = purse;
            return other;
        }

        int year() {
            return days.size() / 20;
        }

        int today() {
            return days.size() % 20;
        }

        int known() {
            return Math.min(4, year());
        }

        List<Day> thisYear() {
            return days.subList(year() * 20, days.size());
        }

        List<Day> ended(int ago) {
            int end = (year() - ago) * 20;
            return days.subList(end - 20, end);
        }

        boolean tells(Saint saint) {
            return saint.feast < today() && thisYear().get(saint.feast).warmth <= saint.bound;
        }

        int told(int day) {
            if (day < today()) {
                return thisYear().get(day).told;
            }
            int told = bases[day];
            for (Saint saint : saints) {
                int behind = day - saint.feast;
                if (behind >= 1 && behind <= saint.length && tells(saint)) {
                    told += saint.effect;
                }
            }
            return clamp(told);
        }

        int purseBehind(int reader, boolean frost, boolean foretold) {
            Bet bet = bets[reader];
            if (bet == null) {
                return purses[reader];
            }
            if (bet.frost != frost) {
                return purses[reader];
            }
            int times = bet.frost == foretold ? 1 : settings[3];
            return purses[reader] + bet.coins + bet.coins * times;
        }

        int pass(int warmth) {
            Day day = new Day(warmth, told(today()), warmth <= 0, told(today()) <= settings[2]);
            for (int reader = 0; reader < 4; reader++) {
                if (bets[reader] != null) {
                    int behind = purseBehind(reader, day.frost, day.foretold);
                    purse -= behind - purses[reader] - bets[reader].coins;
                    purses[reader] = behind;
                    if (bets[reader].frost == day.frost) {
                        won[reader]++;
                    } else {
                        lost[reader]++;
                    }
                    bets[reader] = null;
                }
            }
            days.add(day);
            if (today() == 0) {
                int[] next = new int[20];
                for (int i = 0; i < 20; i++) {
                    next[i] = mend(bases[i], around(ended(0), i, settings[0]), settings[1]);
                }
                endedBases.add(bases);
                bases = next;
            }
            return day.mistake();
        }
    }

    private State now = new State();
    private final List<State> history = new ArrayList<>();
    private State snapshot = null;
    private String text = "";

    private static int clamp(int warmth) {
        if (warmth > 40) {
            return 40;
        }
        return warmth < -40 ? -40 : warmth;
    }

    private static int mend(int base, int mean, int rate) {
        return clamp(base + mean * rate / 100);
    }

    private static int around(List<Day> year, int day, int reach) {
        int sum = 0;
        int many = 0;
        for (int other = 0; other < 20; other++) {
            if (Math.abs(other - day) <= reach) {
                many++;
                sum += other < year.size() ? year.get(other).mistake() : 0;
            }
        }
        return sum / many;
    }

    private static int withoutSigns(List<Day> days) {
        int sum = 0;
        for (Day day : days) {
            sum += Math.abs(day.mistake());
        }
        return sum;
    }

    private static boolean out(int value, int low, int high) {
        return value < low || value > high;
    }

    private void act() {
        history.add(now.copy());
        if (history.size() > 4) {
            history.remove(0);
        }
    }

    int measure(int warmth) {
        if (out(warmth, -40, 40)) {
            return BAD_VALUE;
        }
        act();
        return now.pass(warmth) + 1000;
    }

    int measureAll() {
        if (fault() != NONE) {
            return -100 - fault();
        }
        act();
        int days = 0;
        for (String entry : text.split(";")) {
            String[] parts = entry.split("\\*");
            int times = parts.length == 2 ? Integer.parseInt(parts[1]) : 1;
            for (int i = 0; i < times; i++) {
                now.pass(Integer.parseInt(parts[0]));
                days++;
            }
        }
        return days;
    }

    int base(int day, int base) {
        if (out(day, 0, 19)) {
            return UNKNOWN;
        }
        if (out(base, -40, 40)) {
            return BAD_VALUE;
        }
        if (day < now.today()) {
            return NOT_POSSIBLE;
        }
        int old = now.bases[day];
        if (old == base) {
            return NONE;
        }
        act();
        now.bases[day] = base;
        return old + 1000;
    }

    int saint(int feast, int bound, int effect, int length) {
        if (out(feast, 0, 19)) {
            return UNKNOWN;
        }
        if (out(bound, -40, 40) || out(effect, -20, 20) || out(length, 1, 9)) {
            return BAD_VALUE;
        }
        if (now.saints.size() == 5) {
            return FULL;
        }
        act();
        now.saints.add(new Saint(feast, bound, effect, length));
        return now.saints.size() - 1;
    }

    int strike(int saint) {
        if (out(saint, 0, now.saints.size() - 1)) {
            return UNKNOWN;
        }
        act();
        now.saints.remove(saint);
        return now.saints.size();
    }

    int set(int which, int value) {
        if (out(which, 0, 3) || out(value, RANGES[which][0], RANGES[which][1])) {
            return BAD_VALUE;
        }
        int old = now.settings[which];
        if (old == value) {
            return NONE;
        }
        act();
        now.settings[which] = value;
        return old + 1000;
    }

    int bet(int reader, boolean frost, int coins) {
        if (out(reader, 0, 3)) {
            return UNKNOWN;
        }
        if (out(coins, 1, 1000)) {
            return BAD_VALUE;
        }
        if (now.bets[reader] != null || coins > now.purses[reader]) {
            return NOT_POSSIBLE;
        }
        act();
        now.bets[reader] = new Bet(coins, frost);
        now.purses[reader] -= coins;
        return now.purses[reader];
    }

    int takeBack(int reader) {
        if (out(reader, 0, 3)) {
            return UNKNOWN;
        }
        if (now.bets[reader] == null) {
            return NONE;
        }
        act();
        now.purses[reader] += now.bets[reader].coins;
        now.bets[reader] = null;
        return now.purses[reader];
    }

    int type(char character) {
        if (text.length() == 60) {
            return FULL;
        }
        text += character;
        return text.length();
    }

    int clearText() {
        int old = text.length();
        text = "";
        return old;
    }

    int fault() {
        if (DAYS.matcher(text).matches()) {
            return NONE;
        }
        int good = 0;
        while (good < text.length() && canGoOn(text.substring(0, good + 1))) {
            good++;
        }
        return good;
    }

    private static boolean canGoOn(String beginning) {
        Matcher matcher = DAYS.matcher(beginning);
        return matcher.matches() || matcher.hitEnd();
    }

    int undo() {
        if (history.isEmpty()) {
            return NONE;
        }
        now = history.remove(history.size() - 1);
        return history.size();
    }

    int keep() {
        snapshot = now.copy();
        return now.days.size();
    }

    int restore() {
        if (snapshot == null) {
            return NONE;
        }
        act();
        now = snapshot.copy();
        return now.days.size();
    }

    int dayOf(int day, int what) {
        if (out(day, 0, 19)) {
            return UNKNOWN;
        }
        if (out(what, 0, 4)) {
            return BAD_VALUE;
        }
        if (what == 0) {
            return now.bases[day] + 1000;
        }
        if (what == 1) {
            return now.told(day) + 1000;
        }
        if (what == 4) {
            return now.told(day) <= now.settings[2] ? 1 : 0;
        }
        if (day >= now.today()) {
            return NONE;
        }
        Day measured = now.thisYear().get(day);
        return 1000 + (what == 2 ? measured.warmth : measured.mistake());
    }

    int past(int ago, int day, int what) {
        if (out(ago, 0, now.known() - 1) || out(day, 0, 19)) {
            return UNKNOWN;
        }
        if (out(what, 0, 1)) {
            return BAD_VALUE;
        }
        Day measured = now.ended(ago).get(day);
        return 1000 + (what == 0 ? measured.warmth : measured.mistake());
    }

    int mean(int ago, int day, int way) {
        if (out(ago, 0, now.known() - 1) || out(day, 0, 19)) {
            return UNKNOWN;
        }
        if (out(way, 0, 1)) {
            return BAD_VALUE;
        }
        return around(now.ended(ago), day, now.settings[0]) + 1000;
    }

    int saintOf(int saint, int what) {
        if (out(saint, 0, now.saints.size() - 1)) {
            return UNKNOWN;
        }
        if (out(what, 0, 4)) {
            return BAD_VALUE;
        }
        Saint asked = now.saints.get(saint);
        int[] answers = {asked.feast, asked.bound + 1000, asked.effect + 1000, asked.length,
            now.tells(asked) ? 1 : 0};
        return answers[what];
    }

    int readerOf(int reader, int what) {
        if (out(reader, 0, 3)) {
            return UNKNOWN;
        }
        if (out(what, 0, 4)) {
            return BAD_VALUE;
        }
        Bet bet = now.bets[reader];
        int[] answers = {now.purses[reader], bet == null ? 0 : bet.coins,
            bet != null && bet.frost ? 1 : 0, now.won[reader], now.lost[reader]};
        return answers[what];
    }

    private int daysWith(boolean frost, boolean foretold) {
        int many = 0;
        for (Day day : now.days) {
            if (day.frost == frost && day.foretold == foretold) {
                many++;
            }
        }
        return many;
    }

    int count(int what) {
        if (out(what, 0, 15)) {
            return BAD_VALUE;
        }
        if (what >= 12) {
            return now.settings[what - 12] + 1000;
        }
        int latest = now.known() == 0 ? NONE : withoutSigns(now.ended(0));
        int[] answers = {now.year(), now.today(), now.known(), now.saints.size(),
            daysWith(true, true), daysWith(true, false), daysWith(false, true),
            withoutSigns(now.thisYear()), latest, now.purse + 100000, history.size(), text.length()};
        return answers[what];
    }

    float meanMistake() {
        if (now.days.isEmpty()) {
            return 0.0f;
        }
        return (float) withoutSigns(now.days) / (float) now.days.size();
    }

    int nextBase(int day) {
        if (out(day, 0, 19)) {
            return UNKNOWN;
        }
        int mean = around(now.thisYear(), day, now.settings[0]);
        return mend(now.bases[day], mean, now.settings[1]) + 1000;
    }

    int bestBound(int what) {
        if (out(what, 0, 1)) {
            return BAD_VALUE;
        }
        if (now.known() == 0) {
            return NONE;
        }
        int[] best = null;
        for (int bound = -20; bound <= 20; bound++) {
            int wrong = 0;
            for (Day day : now.ended(0)) {
                wrong += day.frost == day.told <= bound ? 0 : 1;
            }
            // Ranked by how many are wrong, then by the way from 0, then by the sign.
            int[] rank = {wrong, Math.abs(bound), bound};
            if (best == null || Arrays.compare(rank, best) < 0) {
                best = rank;
            }
        }
        return what == 0 ? best[2] + 1000 : best[0];
    }

    int bestRate(int what) {
        if (out(what, 0, 1)) {
            return BAD_VALUE;
        }
        if (now.known() < 2) {
            return NONE;
        }
        int[] bases = now.endedBases.get(now.year() - 2);
        int[] best = null;
        for (int rate = 0; rate <= 100; rate++) {
            int sum = 0;
            for (int day = 0; day < 20; day++) {
                int mean = around(now.ended(1), day, now.settings[0]);
                sum += Math.abs(now.ended(0).get(day).warmth - mend(bases[day], mean, rate));
            }
            int[] rank = {sum, rate};
            if (best == null || Arrays.compare(rank, best) < 0) {
                best = rank;
            }
        }
        return best[1 - what];
    }

    int ifMeasured(int reader, int warmth) {
        if (out(reader, 0, 3)) {
            return UNKNOWN;
        }
        if (out(warmth, -40, 40)) {
            return BAD_VALUE;
        }
        return now.purseBehind(reader, warmth <= 0, now.told(now.today()) <= now.settings[2]);
    }
}
