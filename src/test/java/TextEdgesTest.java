import java.util.ArrayList;
import java.util.List;

/** Terms, "TEXTS", and the promises 3 and 10 to 12: each sentence just at its ends. */
public final class TextEdgesTest extends Scene {
    private static final String DIGITS = "0123456789";
    private static final int SIGNS = 65536;

    /** A beginning of a text, and the characters that are allowed behind it. */
    private record Place(String beginning, String allowed) { }

    public static void main(String[] args) {
        TextEdgesTest test = new TextEdgesTest();
        test.everyCharacterAtEveryPlace();
        test.numbers();
        test.endsTooEarly();
        test.firstFaultCounts();
        test.lengths();
        test.measuring();
        test.due.end("TextEdgesTest");
    }

    // ---- which characters are allowed where

    private static List<Place> places() {
        List<Place> places = new ArrayList<>();
        places.add(new Place("", "-" + DIGITS));
        places.add(new Place("-", "123456789"));
        places.add(new Place("0", "*;"));
        for (String sign : new String[] {"", "-"}) {
            for (int first = 1; first <= 9; first++) {
                places.add(new Place(sign + first, first < 4 ? DIGITS + "*;" : first == 4 ? "0*;" : "*;"));
            }
            for (int warmth = 10; warmth <= 40; warmth++) {
                places.add(new Place(sign + warmth, "*;"));
            }
        }
        places.add(new Place("7*", "123456789"));
        places.add(new Place("0*", "123456789"));
        places.add(new Place("-40*", "123456789"));
        for (int many = 1; many <= 20; many++) {
            places.add(new Place("7*" + many, many == 1 ? DIGITS + ";" : many == 2 ? "0;" : ";"));
        }
        places.add(new Place("7;", "-" + DIGITS));
        places.add(new Place("7*20;", "-" + DIGITS));
        places.add(new Place("-1;0;", "-" + DIGITS));
        return places;
    }

    private void everyCharacterAtEveryPlace() {
        due.at("\"the first character that is not allowed at its place\"");
        for (Place place : places()) {
            // All there are at the first entry, and those near the allowed ones at a later entry.
            charactersBehind(place.beginning, place.allowed, SIGNS);
            charactersBehind("-3*2;" + place.beginning, place.allowed, 512);
        }
    }

    private void charactersBehind(String beginning, String allowed, int signs) {
        int length = beginning.length();
        MistakeAlmanac one = null;
        for (int sign = 0; sign < signs; sign++) {
            // A new object in time: none answers more than 512 calls.
            if (one == null || sign % 16 == 0) {
                one = new MistakeAlmanac();
            }
            one.clearText();
            type(one, beginning);
            one.type((char) sign);
            int wanted = length;
            if (allowed.indexOf(sign) >= 0) {
                wanted = sign >= '0' && sign <= '9' ? NONE : length + 1;
            }
            due.is("fault() of " + beginning + " and the character " + sign, one.fault(), wanted);
        }
    }

    // ---- numbers

    private void faultOf(String text, int wanted) {
        again();
        write(text);
        due.is("fault() of " + text, x.fault(), wanted);
        if (wanted == NONE) {
            due.is("measureAll() of " + text + " is possible", x.measureAll() > 0 ? 1 : 0, 1);
        } else {
            due.is("measureAll() of " + text, x.measureAll(), -100 - wanted);
            isCount(1, 0);
            isCount(10, 0);
        }
        isCount(11, text.length());
    }

    private void numbers() {
        fresh("\"a warmth (0 to 40; '-0' is not allowed)\"");
        for (int warmth = 0; warmth <= 999; warmth++) {
            String text = String.valueOf(warmth);
            // Only the digit that makes it greater than 40 is at fault.
            int wanted = warmth <= 40 ? NONE : warmth >= 100 && warmth / 10 <= 40 ? 2 : 1;
            faultOf(text, wanted);
            if (warmth > 0) {
                faultOf("-" + text, wanted == NONE ? NONE : wanted + 1);
            }
        }
        faultOf("-0", 1);
        faultOf("-0*2", 1);
        faultOf("1;-0", 3);
        faultOf("-00", 1);
        faultOf("-01", 1);
        fresh("\"how many days of the same warmth follow one another (1 to 20)\"");
        for (int many = 0; many <= 299; many++) {
            int wanted = many == 0 ? 2 : many <= 20 ? NONE : many / 10 <= 20 && many >= 100 ? 4 : 3;
            faultOf("1*" + many, wanted);
        }
        fresh("\"Numbers have no zero in front, unless they are the single digit 0\"");
        faultOf("0", NONE);
        faultOf("00", 1);
        faultOf("01", 1);
        faultOf("09", 1);
        faultOf("040", 1);
        faultOf("000", 1);
        faultOf("0;0", NONE);
        faultOf("0;00", 3);
        faultOf("0;01", 3);
        faultOf("1*01", 2);
        faultOf("1*020", 2);
        faultOf("1*00", 2);
        faultOf("10", NONE);
        faultOf("1*10", NONE);
        faultOf("0*10", NONE);
        faultOf("0*20;0", NONE);
    }

    // ---- ends

    private void endsTooEarly() {
        fresh("\"or the length of the text if it ends too early (the empty text does)\"");
        faultOf("", 0);
        faultOf("-", 1);
        faultOf("1;", 2);
        faultOf("1;-", 3);
        faultOf("1*", 2);
        faultOf("-1*", 3);
        faultOf("1;2*", 4);
        faultOf("40*20;", 6);
        faultOf("1;2;", 4);
        again();
        type(x, "1;2");
        x.clearText();
        due.is("fault() of the emptied text", x.fault(), 0);
        due.is("measureAll() of the emptied text", x.measureAll(), -100);
    }

    private void firstFaultCounts() {
        fresh("\"the index, from 0, of the first character that is not allowed\"");
        faultOf(";", 0);
        faultOf(";1;2", 0);
        faultOf("*1", 0);
        faultOf("x;y", 0);
        faultOf("1;x;y", 2);
        faultOf("1;;2;;", 2);
        faultOf("1x", 1);
        faultOf("41;42", 1);
        faultOf("1;2;3x", 5);
        faultOf("1*2*3;*", 3);
        faultOf("1*2-", 3);
        faultOf("--1", 1);
        faultOf("1-1", 1);
        faultOf("- 1", 1);
        faultOf("1 ;2", 1);
        faultOf("1; 2", 2);
        faultOf("1*;2", 2);
        faultOf("1*-2", 2);
        faultOf("1*21;x", 3);
    }

    private void lengths() {
        fresh("\"a text of at most 60 characters, empty at first\"");
        isCount(11, 0);
        due.is("clearText() of the empty text", x.clearText(), 0);
        for (int length = 1; length <= 60; length++) {
            due.is("type", x.type(length % 2 == 1 ? '4' : ';'), length);
            isCount(11, length);
        }
        due.is("type of a character 61", x.type('4'), FULL);
        due.is("type of a character 61", x.type(';'), FULL);
        isCount(11, 60);
        due.is("fault() of 60 characters", x.fault(), 60);
        due.is("measureAll() of 60 characters", x.measureAll(), -160);
        due.is("clearText() of 60 characters", x.clearText(), 60);
        isCount(11, 0);
        due.is("clearText() again", x.clearText(), 0);
        due.is("type", x.type('4'), 1);
        due.is("measureAll()", x.measureAll(), 1);
        String full = "0;0;0;0;0;0;0;0;0;0;0;0;0;0;0;0;0;0;0;0;0;0;0;0;0;0;0;0;0";
        faultOf(full + ";1", NONE);
        faultOf(full + ";10", NONE);
        faultOf(full + ";-1", NONE);
        faultOf(full + "*10", NONE);
        faultOf(full + "*21", 59);
        faultOf(full + ";41", 59);
        faultOf(full + ";-0", 59);
        faultOf(full + ";00", 59);
        faultOf(full + ";1-", 59);
        faultOf(full + ";1*", 60);
        faultOf(full + ";1;", 60);
        faultOf(full + ";-", 59);
        faultOf("x" + full + ";1", 0);
    }

    // ---- measuring the text

    private void measuring() {
        manyOfTheSame();
        longestText();
        textStays();
        oneActOfManyDays();
        notAllowedMeasuresNothing();
    }

    private void manyOfTheSame() {
        fresh("\"one or more days with ';' between two: perhaps '-', and a warmth .., then perhaps '*' ..\"");
        for (int many = 1; many <= 20; many++) {
            again();
            keepBases();
            measureText("-7*" + many + ";40", many + 1);
            isCount(0, (many + 1) / 20);
            isCount(1, (many + 1) % 20);
            due.is("keep()", x.keep(), many + 1);
            if (many < 19) {
                due.is("the last of them", x.dayOf(many - 1, 2), 993);
                due.is("the one behind them", x.dayOf(many, 2), 1040);
                due.is("no more of them", x.dayOf(many + 1, 2), NONE);
            }
        }
        again();
        measureText("0;-40;40;1*1;-1*1;10*2", 7);
        int[] warmths = {1000, 960, 1040, 1001, 999, 1010, 1010, NONE};
        for (int day = 0; day < warmths.length; day++) {
            due.is("dayOf(" + day + ", 2)", x.dayOf(day, 2), warmths[day]);
        }
    }

    private void longestText() {
        fresh("\"Returns how many days are measured\", the most there can be");
        measureText("0*20;0*20;0*20;0*20;0*20;0*20;0*20;0*20;0*20;0*20;0*20;40*20", 240);
        isCount(11, 60);
        isCount(0, 12);
        isCount(1, 0);
        due.is("past(0, 19, 0)", x.past(0, 19, 0), 1040);
        due.is("past(1, 19, 0)", x.past(1, 19, 0), 1000);
        again();
        measureText("1;1;1;1;1;1;1;1;1;1;1;1;1;1;1;1;1;1;1;1;1;1;1;1;1;1;1;1;1;-3", 30);
        isCount(0, 1);
        isCount(1, 10);
        due.is("dayOf(9, 2)", x.dayOf(9, 2), 997);
    }

    private void textStays() {
        fresh("\"Measures the days of the text, which stays\"");
        measureText("5*3", 3);
        isCount(11, 3);
        due.is("measureAll() again", x.measureAll(), 3);
        x.undo();
        isCount(11, 3);
        due.is("type(';') goes on", x.type(';'), 4);
        due.is("fault()", x.fault(), 4);
        due.is("measureAll()", x.measureAll(), -104);
        x.type('7');
        due.is("measureAll()", x.measureAll(), 4);
        due.is("dayOf(6, 2)", x.dayOf(6, 2), 1007);
    }

    private void oneActOfManyDays() {
        fresh("\"This is one act\"");
        x.base(0, 3);
        write("1*20;2*20;3*20;4*20;5*20;6");
        due.is("measureAll()", x.measureAll(), 101);
        isCount(10, 2);
        due.is("undo()", x.undo(), 1);
        isCount(0, 0);
        isCount(1, 0);
        isBase(0, 3);
        due.is("undo()", x.undo(), 0);
        isBase(0, 0);
    }

    private void notAllowedMeasuresNothing() {
        fresh("\"-100 minus the fault of the text if it has one (which is an error)\"");
        x.bet(0, true, 5);
        String[] texts = {"", "1;", "1*20;1*20;1*20;x", "1;2;3;-0"};
        int[] answers = {-100, -102, -115, -107};
        for (int i = 0; i < texts.length; i++) {
            write(texts[i]);
            due.is("measureAll() of " + texts[i], x.measureAll(), answers[i]);
            isCount(0, 0);
            isCount(1, 0);
            isCount(10, 1);
            due.is("readerOf(0, 1)", x.readerOf(0, 1), 5);
        }
    }
}
