import java.util.NoSuchElementException;
import java.util.function.ToIntFunction;

/** Promises 1 to 6, the bounds that the document names: each sentence by itself, quoted ahead of its test. */
final class TextBoundsTest {
    private static final String SEVEN = "dog 1;".repeat(7);
    private static final String SIX_NEVERS = "dog 1;dog 1;dog 1;dog 1;dog 1;dog 1;dog 1;"
            + "never 0 1;never 0 2;never 0 3;never 0 4;never 0 5;never 0 6;";

    private TextBoundsTest() {
    }

    static void run() {
        nobody();
        emptyTape();
        tapeUpToFull();
        fullTape();
        highestByteFirst();
        bedOfNone();
        bedOfAll();
        bedOfSome();
        allAnew();
        longestText();
        emptyTexts();
        numbersOfPeople();
        numbersOfSettings();
        withoutSettings();
        mostSleepers();
        mostNevers();
        placesOfBolsters();
        sleepersOfNever();
        digits();
        everyByteInAnExpr();
        longestRowOfLetters();
        endsTooSoon();
        leastOfOneToken();
        firstAlongTheText();
        deepestExpr();
        mostNots();
        wordsForAPart();
        oneTestInANot();
        secondSettings();
        faultOfTheLatest();
        whats();
        enemies();
    }

    // "SpoonRow(): Nobody."
    private static void nobody() {
        SpoonRow row = new SpoonRow();
        for (int what = 0; what <= 8; what++) {
            int part = what;
            Check.throwing("nobody's " + what, NoSuchElementException.class, () -> row.sleeper(0, part));
        }
        Check.throwing("no order", NoSuchElementException.class, () -> row.kept(0));
        Check.due("no image", row.restore(), false);
        Check.due("no act", row.undo(), -1);
        Check.due("nothing seen", row.forget(), -1);
        Check.due("FREE", row.count(10), 1);
    }

    // "IllegalArgumentException: the tape has not so many": a tape that has none
    private static void emptyTape() {
        SpoonRow row = new SpoonRow();
        Check.throwing("bed(1) of none", IllegalArgumentException.class, () -> row.bed(1));
        Check.due("bed(0) of none", row.bed(0), 0);
        Check.due("no FAULT", row.fault(), -1);
        Check.due("no text refused", row.count(14), 0);
    }

    // "Twenty bytes come behind the tape: how many it has"
    private static void tapeUpToFull() {
        SpoonRow row = new SpoonRow();
        Check.due("none", row.count(13), 0);
        for (int fed = 1; fed <= 30; fed++) {
            Check.due("feed " + fed, row.feed(fed, 0, 0, 0, 0), 20 * fed);
            Check.due("bytes", row.count(13), 20 * fed);
        }
    }

    // "NONE, and none come, if it would have more than 600"
    private static void fullTape() {
        SpoonRow row = new SpoonRow();
        Check.feed(row, SEVEN + " ".repeat(558));
        Check.due("full", row.count(13), 600);
        for (int i = 0; i < 3; i++) {
            Check.due("more than full", row.feed(-1, -1, -1, -1, -1), SpoonRow.NONE);
            Check.due("as full as it was", row.count(13), 600);
        }
        Check.throwing("bed(601)", IllegalArgumentException.class, () -> row.bed(601));
        Check.due("bed(600): none came", row.bed(600), 0);
        Check.due("what was there", row.count(0), 7);
        Check.due("then there is room", row.feed(-1, -1, -1, -1, -1), 20);
    }

    // "of each number the highest first"
    private static void highestByteFirst() {
        SpoonRow row = new SpoonRow();
        row.feed(0x646f6731, 0x3b646f67, 0x323b646f, 0x67333b64, 0x6f67343b);
        Check.due("dog1;dog2;dog3;dog4;", row.bed(20), 0);
        for (int s = 0; s < 4; s++) {
            Check.due("width of " + s, row.sleeper(s, 4), s + 1);
        }
        row.feed(0x20202020, 0x202020ff, 0x20202020, 0x20202020, 0x20202020);
        Check.due("the byte 255", row.bed(20), 1);
        Check.due("the lowest of the second number", row.fault(), 7);
        row.feed(0x20202020, 0x20202020, 0x20202020, 0x20202020, 0x80202020);
        Check.due("the byte 128", row.bed(20), 1);
        Check.due("the highest of the fifth number", row.fault(), 16);
    }

    // "The tape's first n bytes (it is empty then)": n is 0
    private static void bedOfNone() {
        SpoonRow row = Check.told(SEVEN + "bed 1 1;night 1;awake 1;bolster 1;never 0 1;wakes 0;");
        Check.feed(row, "no text at all");
        Check.due("bed(0)", row.bed(0), 0);
        int[] due = {0, 20, 3, 480, 15, 0, 0, 0, -1, 0, 1, 0, 0, 0, 0, 0, 0};
        for (int what = 0; what < due.length; what++) {
            Check.due("bed(0): count(" + what + ")", row.count(what), due[what]);
        }
    }

    // "The tape's first n bytes": n is as many as there are, and one more
    private static void bedOfAll() {
        SpoonRow row = new SpoonRow();
        Check.feed(row, "night 5; awake 5;  ;");
        Check.throwing("one more", IllegalArgumentException.class, () -> row.bed(21));
        Check.due("nothing changes", row.count(13), 20);
        Check.due("nothing changes", row.count(14), 0);
        Check.due("all", row.bed(20), 1);
        Check.due("the last byte is read", row.fault(), 19);
        Check.due("it is empty then", row.count(13), 0);
    }

    // "The tape's first n bytes (it is empty then) are a NIGHT": those behind are not
    private static void bedOfSome() {
        SpoonRow row = new SpoonRow();
        Check.feed(row, "night 57;night 5; awake 5;");
        Check.due("the first nine", row.bed(9), 0);
        Check.due("MINUTES", row.count(3), 57);
        Check.due("it is empty then", row.count(13), 0);
        Check.throwing("nothing is left", IllegalArgumentException.class, () -> row.bed(1));
        Check.feed(row, "night 57;");
        Check.due("ends too soon, whatever is behind", row.bed(7), 1);
        Check.due("at its length", row.fault(), 7);
        Check.due("empty with a FAULT, too", row.count(13), 0);
    }

    // "The tape's first n bytes .. are a NIGHT, all anew": in the next text and in the one behind it
    private static void allAnew() {
        String first = "sleeper 9 8 7 6 5 4;" + "sleeper 9 9 9 9 0 9;".repeat(6)
                + "never 0 1;never 0 6;bed 9 8;night 7;awake 6;bolster 5;wakes 0;";
        for (int between = 0; between <= 2; between++) {
            SpoonRow row = Check.told(first);
            for (int i = 0; i < between; i++) {
                Check.due("a text between", row.bed(0), 0);
            }
            Check.due("dogs", Check.tell(row, SEVEN), 0);
            int[] due = {7, 20, 3, 480, 15, 0, 0};
            for (int what = 0; what < due.length; what++) {
                Check.due("count(" + what + ") then", row.count(what), due[what]);
            }
            int[] dog = {3, 0, 0, 0, 1, 0, 0, 0, 0};
            for (int what = 0; what < dog.length; what++) {
                Check.due("a dog's " + what, row.sleeper(0, what), dog[what]);
            }
            row = Check.told(first);
            for (int i = 0; i < between; i++) {
                Check.due("a text between", row.bed(0), 0);
            }
            Check.due("no rule", Check.tell(row, "bed 1 0;night 9;sleeper 9 99 0 1 0 0;sleeper 99 99 1 1 0 0;"), 0);
            Check.due("woken without it", row.night(1), 1);
        }
    }

    // "A TEXT of at most 600 bytes tells it"
    private static void longestText() {
        String full = " ".repeat(594) + "dog 9;";
        Check.due("the last byte counts", Check.told(full).sleeper(0, 4), 9);
        Check.fault(" ".repeat(595) + "dog 9", 1, 600);
        Check.fault(" ".repeat(599) + "9", 1, 599);
        Check.fault("\n".repeat(599) + "\u00ff", 1, 599);
        StringBuilder rule = new StringBuilder("dog 1;wakes 1");
        while (rule.length() < 599) {
            rule.append("-1");
        }
        Check.told(rule.append(';').toString());
        Check.told("wakes" + " ".repeat(593) + "1;");
        Check.fault("wakes 1" + "/1".repeat(296) + "+", 1, 600);
    }

    // "NIGHT: LINE*": no LINE at all
    private static void emptyTexts() {
        for (String text : new String[] {"", " ", "\n", " \n ", " ".repeat(600)}) {
            Check.due("nobody", Check.told(text).count(0), 0);
        }
        Check.fault(";", 1, 0);
        Check.fault("dog 1;;", 1, 6);
    }

    /** The least and the largest NUMBER are told; one below, one above and any of 5 digits are FAULTS. */
    private static void number(String ahead, int least, int most, String behind, ToIntFunction<SpoonRow> told) {
        for (int number : new int[] {least, least + 1, most - 1, most}) {
            SpoonRow row = Check.told(ahead + number + behind);
            Check.due(ahead + number + behind, told.applyAsInt(row), number);
        }
        if (least > 0) {
            Check.fault(ahead + (least - 1) + behind, 2, ahead.length());
        }
        Check.fault(ahead + "-" + least + behind, 1, ahead.length());
        Check.fault(ahead + (most + 1) + behind, 2, ahead.length());
        Check.fault(ahead + "9999" + behind, 2, ahead.length());
        Check.fault(ahead + "10000" + behind, 2, ahead.length());
        Check.fault(ahead + "0000" + most + behind, 2, ahead.length());
        Check.fault(ahead + "4294967297" + behind, 2, ahead.length());
        Check.fault(ahead + ";", 1, ahead.length());
        Check.fault(ahead + "x" + behind, 1, ahead.length());
        SpoonRow row = Check.told(ahead + String.format("%04d", most) + behind);
        Check.due("four digits", told.applyAsInt(row), most);
    }

    // "how long one bears the LEFT, the RIGHT (1 to 240 minutes), LIGHT (0 to 9), WIDTH (1 to 9), the minute
    // in which one must OUT (0 to 600; 0 none), TENTHS (0 to 10)"
    private static void numbersOfPeople() {
        for (String kind : new String[] {"sleeper ", "child ", "snorer "}) {
            number(kind, 1, 240, " 1 0 1 0 0;", row -> row.sleeper(0, 1));
            number(kind + "1 ", 1, 240, " 0 1 0 0;", row -> row.sleeper(0, 2));
            number(kind + "1 1 ", 0, 9, " 1 0 0;", row -> row.sleeper(0, 3));
            number(kind + "1 1 0 ", 1, 9, " 0 0;", row -> row.sleeper(0, 4));
            number(kind + "1 1 0 1 ", 0, 600, " 0;", row -> row.sleeper(0, 5));
            number(kind + "1 1 0 1 0 ", 0, 10, ";", row -> row.sleeper(0, 6));
        }
        number("dog ", 1, 9, ";", row -> row.sleeper(0, 4));
    }

    // "WIDE (1 to 99; ..), ROOM (0 to 9; ..). A NIGHT has MINUTES 1 to so many (1 to 600; ..). AWAKE (0 to 60; ..)"
    private static void numbersOfSettings() {
        number("bed ", 1, 99, " 0;", row -> row.count(1));
        number("bed 1 ", 0, 9, ";", row -> row.count(2));
        number("night ", 1, 600, ";", row -> row.count(3));
        number("awake ", 0, 60, ";", row -> row.count(4));
    }

    // "20 without .. 3 without .. 480 without .. 15 without"
    private static void withoutSettings() {
        SpoonRow row = Check.told("bed 1 1;night 1;awake 1;");
        Check.due("others alone", Check.tell(row, "bolster 1;dog 1;"), 0);
        Check.due("WIDE", row.count(1), 20);
        Check.due("ROOM", row.count(2), 3);
        Check.due("MINUTES", row.count(3), 480);
        Check.due("AWAKE", row.count(4), 15);
    }

    // "SLEEPERS 0, 1 .. (at most 7), at first in PLACES 0 (at the wall), 1 .." and "the first TOKEN of the 8th"
    private static void mostSleepers() {
        SpoonRow row = Check.told(SEVEN);
        Check.due("seven", row.count(0), 7);
        for (int s = 0; s < 7; s++) {
            Check.due("place", row.sleeper(s, 7), s);
        }
        for (String kind : new String[] {"sleeper", "child", "snorer", "dog"}) {
            String one = kind.equals("dog") ? "dog 1;" : kind + " 1 1 0 1 0 0;";
            Check.due("a 7th " + kind, Check.told(one.repeat(7)).count(0), 7);
            Check.fault(SEVEN + one, 2, 42);
            Check.fault(SEVEN + " \n" + kind, 2, 44);
            Check.fault(SEVEN + "night 5;" + kind + " 0", 2, 50);
        }
        Check.fault(SEVEN + "dogs 1;", 1, 42);
        Check.fault(SEVEN + "1", 1, 42);
    }

    // "NEVER (at most 6)" and "the 7th NEVER"
    private static void mostNevers() {
        Check.due("six", Check.told(SIX_NEVERS).count(6), 6);
        int length = SIX_NEVERS.length();
        Check.fault(SIX_NEVERS + "never 1 2;", 2, length);
        Check.fault(SIX_NEVERS + "never 0 1;", 2, length);
        Check.fault(SIX_NEVERS + "never", 2, length);
        Check.due("six, then other LINES", Check.told(SIX_NEVERS + "night 5;").count(3), 5);
        Check.due("none", Check.told(SEVEN).count(6), 0);
    }

    // "BOLSTERS: ahead of a PLACE (1 to 6)" and "a BOLSTER where there is one (at its PLACE)"
    private static void placesOfBolsters() {
        Check.due("the least", Check.told("bolster 1;").count(5), 2);
        Check.due("the largest", Check.told("bolster 6;").count(5), 64);
        Check.due("all", Check.told("bolster 6;bolster 5;bolster 4;bolster 3;bolster 2;bolster 1;").count(5), 126);
        Check.fault("bolster 0;", 2, 8);
        Check.fault("bolster 7;", 2, 8);
        Check.fault("bolster 33;", 2, 8);
        Check.fault("bolster 38;", 2, 8);
        Check.fault("bolster 9999;", 2, 8);
        Check.fault("bolster 10000;", 2, 8);
        for (int place = 1; place <= 6; place++) {
            String one = "bolster " + place + ";";
            Check.fault(one + "bolster   " + place, 5, 20);
            Check.fault(one + "bolster 000" + place + ";", 5, 18);
            Check.fault(one + "bolster 0000" + place + ";", 2, 18);
            Check.due("another", Check.told(one + "bolster " + (place % 6 + 1) + ";").count(0), 0);
        }
    }

    // "a SLEEPER that isn't told ahead" and "the second SLEEPER of a NEVER that is the first one, or of whom
    // that was told (either way round)"
    private static void sleepersOfNever() {
        for (int many = 0; many <= 7; many++) {
            String ahead = "dog 1;".repeat(many) + "never ";
            Check.fault(ahead + many + " 0;" + SEVEN, 3, ahead.length());
            Check.fault(ahead + "9999 0;", 3, ahead.length());
            Check.fault(ahead + "10000 0;", 2, ahead.length());
            if (many > 0) {
                int last = many - 1;
                Check.fault(ahead + last + " " + many + ";dog 1;", 3, ahead.length() + 2);
                Check.fault(ahead + last + " 9999;", 3, ahead.length() + 2);
                Check.fault(ahead + last + " 10000;", 2, ahead.length() + 2);
                Check.fault(ahead + last + " " + last + ";", 4, ahead.length() + 2);
                Check.fault(ahead + last + " 000" + last + ";", 4, ahead.length() + 2);
            }
        }
        Check.told(SEVEN + "never 0 6;never 5 6;");
        Check.fault(SEVEN + "never 0 6;never 6 0;", 4, 60);
        Check.fault(SEVEN + "never 6 0;never 6 0;", 4, 60);
        Check.fault(SEVEN + "never 6 0;never 0 6;", 4, 60);
        Check.fault(SEVEN + "never 6 0;never 6 6;", 4, 60);
        Check.told(SEVEN + "never 6 0;never 6 5;never 5 0;");
    }

    // "NUMBERS (1 to 4 digits)" and "a NUMBER of 5 digits or more"; where none can stand it is 1
    private static void digits() {
        Check.told("wakes 0;");
        Check.told("wakes 9999;");
        Check.told("wakes 0000;");
        Check.fault("wakes 10000;", 2, 6);
        Check.fault("wakes 00000;", 2, 6);
        Check.fault("wakes 1+" + "9".repeat(500), 2, 8);
        Check.fault("dog 1 10000;", 1, 6);
        Check.fault("wakes 1 10000;", 1, 8);
        Check.fault("10000", 1, 0);
        Check.due("five digits in two NUMBERS", Check.told("bed 0099 0009;").count(1), 99);
        Check.fault("bed 00990009;", 2, 4);
    }

    // "words (a .. z, the longest row), NUMBERS (1 to 4 digits), signs ; ( ) + - * / < = ; blanks (32, 10)"
    private static void everyByteInAnExpr() {
        for (int one = 0; one < 256; one++) {
            String sign = String.valueOf((char) one);
            boolean isLetter = one >= 97 && one <= 122;
            boolean isDigit = one >= 48 && one <= 57;
            boolean isBlank = one == 32 || one == 10;
            boolean joins = "+-*/<=".contains(sign);
            // between two NUMBERS
            if (isDigit || joins) {
                Check.told("wakes 1" + sign + "1;");
            } else {
                Check.fault("wakes 1" + sign + "1;", 1, isBlank || sign.equals(";") ? 8 : 7);
            }
            // where a PART must stand
            if (isDigit) {
                Check.told("wakes " + sign + ";");
            } else if (isLetter) {
                Check.fault("wakes " + sign + ";", 3, 6);
            } else {
                Check.fault("wakes " + sign + ";", 1, isBlank || sign.equals("(") ? 7 : 6);
            }
            // where a LINE must begin, blanks alone may stand
            if (isBlank) {
                Check.told(sign);
            } else {
                Check.fault(sign, 1, 0);
            }
        }
    }

    // "words (a .. z, the longest row)", "blanks between them count for nothing"
    private static void longestRowOfLetters() {
        for (String word : new String[] {"sleeper", "child", "snorer", "dog", "bed", "night", "awake",
            "bolster", "never", "wakes"}) {
            Check.fault(word + "s 1;", 1, 0);
            Check.fault(word.substring(0, word.length() - 1) + " 1;", 1, 0);
            Check.fault("x" + word + " 1;", 1, 0);
            Check.fault("z" + word.substring(1) + " 1;", 1, 0);
            Check.fault(word.substring(0, word.length() - 1) + "z 1;", 1, 0);
            Check.fault(word.substring(0, 1) + " " + word.substring(1), 1, 0);
            Check.fault(word.substring(0, 1).toUpperCase() + word.substring(1) + " 1;", 1, 0);
            Check.fault(word, 1, word.length());
        }
        for (String value : new String[] {"light", "off", "turns", "hour", "snore", "edge", "woken"}) {
            Check.told("wakes " + value + ";");
            Check.told("wakes(" + value + ");");
            Check.fault("wakes " + value + "s;", 3, 6);
            Check.fault("wakes z" + value.substring(1) + ";", 3, 6);
            Check.fault("wakes " + value.substring(0, value.length() - 1) + "z;", 3, 6);
            Check.fault("wakes " + value.substring(0, value.length() - 1) + ";", 3, 6);
            Check.fault("wakes" + value + ";", 1, 0);
            Check.fault("wakes " + value + value + ";", 3, 6);
            Check.fault("wakes " + value + " " + value + ";", 1, 7 + value.length());
        }
        Check.due("no blanks", Check.told("night5;bed9 8;dog1;wakes1or2and3;").count(3), 5);
        Check.fault("wakes 1or2andnot3;", 1, 10);
        Check.fault("wakes 1 zr 2;", 1, 8);
        Check.fault("wakes 1 znd 2;", 1, 8);
        Check.fault("wakes zot 2;", 3, 6);
        Check.told("wakes 1or2and not3;");
    }

    // "the text's length where it ends too soon"
    private static void endsTooSoon() {
        String whole = "dog 1;dog 1;bed 9 9;never 0 1;wakes (not 1 + 1 < 2) or 3;bolster 4;sleeper 1 1 1 1 1 1;";
        Check.told(whole);
        int lines = 0;
        for (int length = 0; length <= whole.length(); length++) {
            String part = whole.substring(0, length);
            SpoonRow row = new SpoonRow();
            Check.feed(row, whole);
            boolean isWhole = length == 0 || part.endsWith(";");
            lines += isWhole ? 1 : 0;
            int fault = row.bed(length);
            if (isWhole) {
                Check.due("whole LINES: " + part, fault, 0);
            } else if (!part.matches(".*[a-z]")) {
                Check.due("ends too soon: " + part, fault, 1);
                Check.due("at its length: " + part, row.fault(), length);
            } else {
                Check.due("a part of a word, or no more: " + part, fault != 0, true);
            }
        }
        Check.due("LINES", lines, 8);
        Check.fault("bed", 1, 3);
        Check.fault("bed  \n ", 1, 7);
        Check.fault("wakes not", 1, 9);
        Check.fault("wakes 1 or", 1, 10);
        Check.fault("wakes 1 <", 1, 9);
        Check.fault("wakes (", 1, 7);
    }

    // "of one TOKEN the least"
    private static void leastOfOneToken() {
        // 1 ahead of 2: it can't stand there, however long it is
        Check.fault("dog 1 123456;", 1, 6);
        // 1 ahead of 3: a word where no PART must stand
        Check.fault("wakes 1 foo;", 1, 8);
        Check.fault("dog 1;never foo 0;", 1, 12);
        // 2 ahead of 3: any word begins the EXPR within 6 others; a SLEEPER of five digits is not told
        Check.fault("wakes ((((((foo))))));", 2, 12);
        Check.fault("wakes ((((((or", 2, 12);
        Check.fault("dog 1;never 00001 0;", 2, 12);
        // 3 ahead of 4: the first one again, who is not told
        Check.fault("never 0 0;", 3, 6);
        Check.fault("dog 1;never 0 1;", 3, 14);
        // 2 ahead of 4: the first one again, in five digits
        Check.fault("dog 1;never 0 00000;", 2, 14);
        // 2 ahead of 5: where there is a BOLSTER, in five digits
        Check.fault("bolster 1;bolster 00001;", 2, 18);
    }

    // "the first along the text"
    private static void firstAlongTheText() {
        Check.fault("night 0;dogs;", 2, 6);
        Check.fault("dogs;night 0;", 1, 0);
        Check.fault("night 5;night 0;dogs", 5, 8);
        Check.fault("dog 1;never 0 0;never 0 1;", 4, 14);
        Check.fault("wakes foo+12345;", 3, 6);
        Check.fault("wakes 12345+foo;", 2, 6);
        Check.fault("never 1 12345;", 3, 6);
        Check.fault(SEVEN + "dog 0 0 0", 2, 42);
    }

    // "an EXPR within 6 others (a NUMBER, any word, a parenthesis)"
    private static void deepestExpr() {
        for (int deep = 0; deep <= 8; deep++) {
            for (String inner : new String[] {"1", "light", "not 1", "(1)"}) {
                String text = "wakes " + "(".repeat(deep) + inner + ")".repeat(deep) + ";";
                int most = inner.equals("(1)") ? 4 : 5;
                if (deep <= most) {
                    Check.told(text);
                } else {
                    Check.fault(text, 2, 12);
                }
            }
        }
        for (String inner : new String[] {"9999", "12345", "off", "foo", "or", "and", "dog", "not", "("}) {
            Check.fault("wakes ((((((" + inner, 2, 12);
            Check.fault("wakes (((((1+(\n" + inner, 2, 15);
        }
        for (String inner : new String[] {")", ";", "+", "-", "*", "/", "<", "=", "?", ""}) {
            Check.fault("wakes ((((((" + inner, 1, 12);
        }
        Check.told("wakes (((((1)))))*(((((2)))))and(((((3)))));");
        Check.fault("wakes (((((1)))))*(((((2)))))and((((((3))))));", 2, 38);
    }

    // "the seventh 'not' side by side"
    private static void mostNots() {
        for (int many = 0; many <= 8; many++) {
            String text = "wakes " + "not ".repeat(many) + "1;";
            if (many <= 6) {
                Check.told(text);
            } else {
                Check.fault(text, 2, 30);
            }
        }
        String six = "not not not not not not ";
        Check.fault("wakes " + six + "not", 2, 30);
        Check.fault("wakes " + six + "\n not 1", 2, 32);
        Check.fault("wakes 1 or " + six + "not 1;", 2, 35);
        Check.told("wakes " + six + "1 or " + six + "1 and " + six + "1;");
        Check.told("wakes " + six + "(" + six + "1);");
        Check.fault("wakes " + six + "nots;", 3, 30);
        Check.fault("wakes " + six + ";", 1, 30);
    }

    // "any word where a PART must stand that is no VALUE"
    private static void wordsForAPart() {
        for (String word : new String[] {"x", "or", "and", "sleeper", "wakes", "lights", "ligh"}) {
            Check.fault("wakes " + word + ";", 3, 6);
            Check.fault("wakes not " + word + ";", 3, 10);
            Check.fault("wakes 1 or " + word + ";", 3, 11);
            Check.fault("wakes 1 and " + word + ";", 3, 12);
            for (char sign : "+-*/<=".toCharArray()) {
                Check.fault("wakes 1 " + sign + " " + word + ";", 3, 10);
            }
            Check.fault("wakes 1 (" + word + ");", 1, 8);
            Check.fault("wakes 1*(" + word + ");", 3, 9);
        }
        for (char sign : "+-*/<=".toCharArray()) {
            Check.fault("wakes 1 " + sign + " not 1;", 3, 10);
        }
    }

    // "SUM [('<' | '=') SUM]": one of them, or none
    private static void oneTestInANot() {
        for (String first : new String[] {"<", "="}) {
            Check.told("wakes 1" + first + "2;");
            Check.told("wakes 1" + first + "2 or 1" + first + "2 and not 1" + first + "2;");
            for (String second : new String[] {"<", "="}) {
                Check.fault("wakes 1" + first + "2" + second + "3;", 1, 9);
                Check.told("wakes (1" + first + "2)" + second + "3;");
                Check.fault("wakes 1" + first + second + "3;", 1, 8);
            }
        }
    }

    // "a second 'bed', 'night', 'awake', 'wakes'"
    private static void secondSettings() {
        String[] lines = {"bed 1 0;", "night 1;", "awake 0;", "wakes 0;"};
        for (String one : lines) {
            Check.fault(one + one, 5, 8);
            Check.fault(one + "dog 1;" + one.substring(0, 5), 5, 14);
            for (String other : lines) {
                if (!one.equals(other)) {
                    Check.told(one + other);
                    Check.fault(one + other + one, 5, 16);
                }
            }
            SpoonRow row = Check.told(one);
            Check.due("once more in another text", Check.tell(row, one), 0);
        }
    }

    // "The place of the latest bed()'s FAULT; NONE without."
    private static void faultOfTheLatest() {
        SpoonRow row = new SpoonRow();
        Check.due("at first", row.fault(), -1);
        Check.due("a FAULT", Check.tell(row, "  x"), 1);
        Check.due("its place", row.fault(), 2);
        Check.throwing("none of so many", IllegalArgumentException.class, () -> row.bed(1));
        Check.due("still its place", row.fault(), 2);
        Check.due("a FAULT", Check.tell(row, "x"), 1);
        Check.due("the place 0", row.fault(), 0);
        Check.due("none", Check.tell(row, "dog 1;"), 0);
        Check.due("no place", row.fault(), -1);
        Check.due("of an empty text", row.bed(0), 0);
        Check.due("no place", row.fault(), -1);
    }

    // "NoSuchElementException: another what", "no such SLEEPER (as everywhere)"
    private static void whats() {
        SpoonRow row = Check.told(SEVEN);
        for (int what : new int[] {Integer.MIN_VALUE, -2, -1, 17, 18, Integer.MAX_VALUE}) {
            Check.throwing("count(" + what + ")", NoSuchElementException.class, () -> row.count(what));
        }
        for (int what : new int[] {Integer.MIN_VALUE, -2, -1, 9, 10, Integer.MAX_VALUE}) {
            Check.throwing("sleeper(6, " + what + ")", NoSuchElementException.class, () -> row.sleeper(6, what));
        }
        for (int s : new int[] {Integer.MIN_VALUE, -2, -1, 7, 8, Integer.MAX_VALUE}) {
            Check.throwing("sleeper(" + s + ", 0)", NoSuchElementException.class, () -> row.sleeper(s, 0));
        }
        Check.due("the first", row.sleeper(0, 0), 3);
        Check.due("the last", row.sleeper(6, 8), 0);
        Check.due("count(0)", row.count(0), 7);
        Check.due("count(16)", row.count(16), 0);
    }

    // "8 who mustn't lie beside (bits)": none, all others, either way round
    private static void enemies() {
        SpoonRow row = Check.told(SIX_NEVERS);
        Check.due("all others", row.sleeper(0, 8), 126);
        for (int s = 1; s < 7; s++) {
            Check.due("the first alone", row.sleeper(s, 8), 1);
        }
        Check.due("a text later", Check.tell(row, SEVEN + "never 6 5;"), 0);
        int[] due = {0, 0, 0, 0, 0, 64, 32};
        for (int s = 0; s < 7; s++) {
            Check.due("enemies of " + s, row.sleeper(s, 8), due[s]);
        }
    }
}
