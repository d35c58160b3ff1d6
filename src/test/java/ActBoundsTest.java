import java.util.NoSuchElementException;

/** Promises 7 to 12, 26, 27, 31, 32, the bounds that the document names: each sentence by itself. */
final class ActBoundsTest {
    private static final String SEVEN = "sleeper 9 9 0 1 0 0;".repeat(6) + "dog 1;";
    private static final int[] FAR = {Integer.MIN_VALUE, -1, Integer.MAX_VALUE};

    private ActBoundsTest() {
    }

    static void run() {
        placesToSwap();
        noPlacesToSwap();
        sides();
        wordFromLeastToLargest();
        nobodysWord();
        wordOfADog();
        bolsterFromLeastToLargest();
        bolsterThatIsSo();
        outFromLeastToLargest();
        outOfADog();
        toldAsTheyAre();
        fortyActs();
        fortyOneActs();
        actsUndoneAndDoneAgain();
        eachActUndone();
        noAct();
        actsAndBed();
        seenInMinutes();
        eightSeen();
        noneSeen();
        noImage();
        anotherImage();
        imageOfStatus();
        imageAndBed();
        imageOfFortyActs();
        statusThroughBeds();
        lastOf512Calls();
    }

    private static void refused(SpoonRow row, int texts, int acts, int seen) {
        Check.due("refused texts", row.count(14), texts);
        Check.due("refused acts", row.count(15), acts);
        Check.due("refused seen", row.count(16), seen);
    }

    // "two PLACES are SWAPPED": the first, the last, those side by side
    private static void placesToSwap() {
        SpoonRow row = Check.told(SEVEN);
        Check.due("the ends", row.swap(0, 6), true);
        Check.due("who lay at the wall", row.sleeper(0, 7), 6);
        Check.due("who lay at the edge", row.sleeper(6, 7), 0);
        Check.due("back, the other way round", row.swap(6, 0), true);
        Check.due("at the wall", row.sleeper(0, 7), 0);
        Check.due("side by side", row.swap(5, 6), true);
        Check.due("at the edge", row.sleeper(5, 7), 6);
        refused(row, 0, 0, 0);
        Check.due("of two", Check.told("dog 1;dog 1;").swap(1, 0), true);
    }

    // "False (STATUS 1): no such PLACES, both are one."
    private static void noPlacesToSwap() {
        SpoonRow row = Check.told(SEVEN);
        int times = 0;
        for (int place : new int[] {-1, 7, 8, Integer.MIN_VALUE, Integer.MAX_VALUE}) {
            Check.due("swap(" + place + ", 0)", row.swap(place, 0), false);
            Check.due("swap(6, " + place + ")", row.swap(6, place), false);
            Check.due("swap(" + place + ", same)", row.swap(place, place), false);
            times += 3;
            refused(row, 0, times, 0);
        }
        for (int place = 0; place < 7; place++) {
            Check.due("both are one", row.swap(place, place), false);
            times++;
            refused(row, 0, times, 0);
        }
        Check.due("no ACT", row.count(11), 0);
        Check.due("nobody", new SpoonRow().swap(0, 1), false);
        SpoonRow one = Check.told("dog 1;");
        Check.due("one", one.swap(0, 1), false);
        Check.due("one", one.swap(0, 0), false);
        refused(one, 0, 2, 0);
    }

    // "FIRST: as it was. NONE (STATUS 1): no such side."
    private static void sides() {
        SpoonRow row = new SpoonRow();
        Check.due("right", row.side(1), 0);
        Check.due("left", row.side(0), 1);
        Check.due("left again", row.side(0), 0);
        int times = 0;
        for (int side : new int[] {-1, 2, 3, Integer.MIN_VALUE, Integer.MAX_VALUE}) {
            Check.due("side(" + side + ")", row.side(side), -1);
            times++;
            refused(row, 0, times, 0);
        }
        Check.due("as it was", row.count(7), 0);
        Check.due("three ACTS", row.count(11), 3);
    }

    // "THE WORD becomes somebody's, every so many minutes (1 to 240)"
    private static void wordFromLeastToLargest() {
        SpoonRow row = Check.told(SEVEN);
        Check.due("the least", row.word(0, 1), 0);
        Check.due("one more", row.word(5, 2), 1);
        Check.due("one less than the largest", row.word(0, 239), 2);
        Check.due("the largest", row.word(5, 240), 239);
        Check.due("one above", row.word(0, 241), -1);
        Check.due("one below", row.word(0, -1), -1);
        refused(row, 0, 2, 0);
        for (int every : FAR) {
            Check.due("far out", row.word(0, every), -1);
        }
        refused(row, 0, 5, 0);
        Check.due("by", row.count(8), 5);
        Check.due("every", row.count(9), 240);
        Check.due("ACTS", row.count(11), 4);
    }

    // "THE WORD: every so many minutes as it was (0 none) .. (0: nobody's)"
    private static void nobodysWord() {
        SpoonRow row = Check.told(SEVEN);
        Check.due("nobody's as it is", row.word(3, 0), 0);
        Check.due("by nobody", row.count(8), -1);
        Check.due("somebody's", row.word(3, 7), 0);
        Check.due("by", row.count(8), 3);
        Check.due("nobody's by another", row.word(4, 0), 7);
        Check.due("by nobody", row.count(8), -1);
        Check.due("every 0", row.count(9), 0);
        Check.due("undone", row.undo(), 2);
        Check.due("by", row.count(8), 3);
        Check.due("every", row.count(9), 7);
        Check.due("undone", row.undo(), 1);
        Check.due("by nobody", row.count(8), -1);
    }

    // "NONE (STATUS 1): .. a dog." and "no such SLEEPER (as everywhere)", which is no STATUS
    private static void wordOfADog() {
        SpoonRow row = Check.told(SEVEN);
        Check.due("a dog", row.word(6, 5), -1);
        Check.due("a dog, nobody's", row.word(6, 0), -1);
        Check.due("a dog, too often", row.word(6, 241), -1);
        refused(row, 0, 3, 0);
        for (int s : new int[] {-1, 7, Integer.MIN_VALUE, Integer.MAX_VALUE}) {
            Check.throwing("word(" + s + ", 5)", NoSuchElementException.class, () -> row.word(s, 5));
            Check.throwing("word(" + s + ", 0)", NoSuchElementException.class, () -> row.word(s, 0));
            Check.throwing("word(" + s + ", 241)", NoSuchElementException.class, () -> row.word(s, 241));
        }
        refused(row, 0, 3, 0);
        Check.throwing("nobody", NoSuchElementException.class, () -> new SpoonRow().word(0, 5));
    }

    // "A BOLSTER put, or taken: true. False (STATUS 1): .. no such PLACE (1 to 6)."
    private static void bolsterFromLeastToLargest() {
        SpoonRow row = new SpoonRow();
        for (int place = 1; place <= 6; place++) {
            Check.due("put at " + place, row.bolster(place, true), true);
            Check.due("bits", row.count(5), (2 << place) - 2);
        }
        for (int place = 6; place >= 1; place--) {
            Check.due("taken at " + place, row.bolster(place, false), true);
            Check.due("bits", row.count(5), (1 << place) - 2);
        }
        refused(row, 0, 0, 0);
        int times = 0;
        for (int place : new int[] {-1, 0, 7, 8, 33, 38, -26, -31, Integer.MIN_VALUE, Integer.MAX_VALUE}) {
            Check.due("put at " + place, row.bolster(place, true), false);
            Check.due("taken at " + place, row.bolster(place, false), false);
            times += 2;
            refused(row, 0, times, 0);
        }
        Check.due("bits", row.count(5), 0);
        Check.due("ACTS", row.count(11), 12);
    }

    // "False (STATUS 1): it is so already"
    private static void bolsterThatIsSo() {
        SpoonRow row = Check.told("bolster 1;bolster 6;");
        for (int place : new int[] {1, 6}) {
            Check.due("there is one", row.bolster(place, true), false);
            Check.due("taken", row.bolster(place, false), true);
            Check.due("there is none", row.bolster(place, false), false);
            Check.due("put", row.bolster(place, true), true);
        }
        Check.due("there was none", row.bolster(3, false), false);
        refused(row, 0, 5, 0);
        Check.due("bits", row.count(5), 66);
        Check.due("ACTS", row.count(11), 4);
    }

    // "OUT: as it was. NONE (STATUS 1): not 0 to 600"
    private static void outFromLeastToLargest() {
        SpoonRow row = Check.told("night 1;sleeper 9 9 0 1 600 0;child 9 9 0 1 0 0;");
        Check.due("the least", row.out(0, 0), 600);
        Check.due("one more", row.out(0, 1), 0);
        Check.due("one less than the largest", row.out(0, 599), 1);
        Check.due("the largest", row.out(0, 600), 599);
        Check.due("a child", row.out(1, 600), 0);
        Check.due("one above", row.out(0, 601), -1);
        Check.due("one below", row.out(0, -1), -1);
        refused(row, 0, 2, 0);
        for (int minute : FAR) {
            Check.due("far out", row.out(0, minute), -1);
        }
        refused(row, 0, 5, 0);
        Check.due("OUT", row.sleeper(0, 5), 600);
        Check.due("OUT of the other", row.sleeper(1, 5), 600);
        Check.due("ACTS", row.count(11), 5);
    }

    // "NONE (STATUS 1): .. a dog." and "no such SLEEPER (as everywhere)", which is no STATUS
    private static void outOfADog() {
        SpoonRow row = Check.told(SEVEN);
        Check.due("a dog", row.out(6, 5), -1);
        Check.due("a dog as it is", row.out(6, 0), -1);
        Check.due("a dog, too late", row.out(6, 601), -1);
        refused(row, 0, 3, 0);
        Check.due("OUT of the dog", row.sleeper(6, 5), 0);
        for (int s : new int[] {-1, 7, Integer.MIN_VALUE, Integer.MAX_VALUE}) {
            Check.throwing("out(" + s + ", 5)", NoSuchElementException.class, () -> row.out(s, 5));
            Check.throwing("out(" + s + ", 601)", NoSuchElementException.class, () -> row.out(s, 601));
        }
        refused(row, 0, 3, 0);
        Check.throwing("nobody", NoSuchElementException.class, () -> new SpoonRow().out(0, 5));
    }

    // "FIRST, THE WORD, OUT told as they are already are ACTS, too"
    private static void toldAsTheyAre() {
        SpoonRow row = Check.told("sleeper 9 9 0 1 5 0;");
        Check.due("FIRST", row.side(0), 0);
        Check.due("an ACT", row.count(11), 1);
        Check.due("THE WORD", row.word(0, 0), 0);
        Check.due("an ACT", row.count(11), 2);
        Check.due("OUT", row.out(0, 5), 5);
        Check.due("an ACT", row.count(11), 3);
        Check.due("the word", row.word(0, 9), 0);
        Check.due("as it is", row.word(0, 9), 9);
        Check.due("an ACT", row.count(11), 5);
        Check.due("undone", row.undo(), 4);
        Check.due("as it was", row.count(9), 9);
        Check.due("undone", row.undo(), 3);
        Check.due("as it was", row.count(9), 0);
        Check.due("undone", row.undo(), 2);
        Check.due("as it was", row.sleeper(0, 5), 5);
        refused(row, 0, 0, 0);
    }

    // "ACTS (at most 40 are kept, the latest ones"
    private static void fortyActs() {
        SpoonRow row = Check.told(SEVEN);
        for (int i = 1; i <= 40; i++) {
            row.out(0, i);
            Check.due("kept", row.count(11), i);
        }
        for (int left = 39; left >= 0; left--) {
            Check.due("undone", row.undo(), left);
            Check.due("OUT", row.sleeper(0, 5), left);
        }
        Check.due("none", row.undo(), -1);
        Check.due("all forty are undone", row.sleeper(0, 5), 0);
    }

    private static void fortyOneActs() {
        SpoonRow row = Check.told(SEVEN);
        row.swap(0, 1);
        for (int i = 1; i <= 40; i++) {
            row.out(0, i);
        }
        Check.due("kept", row.count(11), 40);
        for (int left = 39; left >= 0; left--) {
            Check.due("undone", row.undo(), left);
        }
        Check.due("none", row.undo(), -1);
        Check.due("OUT as it was", row.sleeper(0, 5), 0);
        Check.due("the first ACT is kept no more", row.sleeper(0, 7), 1);
    }

    // "They are UNDONE, the last one first.": behind a full row there is room for as many as were undone
    private static void actsUndoneAndDoneAgain() {
        SpoonRow row = Check.told(SEVEN);
        for (int i = 1; i <= 45; i++) {
            row.word(0, i);
        }
        for (int left = 39; left >= 35; left--) {
            Check.due("undone", row.undo(), left);
        }
        Check.due("every", row.count(9), 40);
        for (int i = 1; i <= 6; i++) {
            row.word(1, 100 + i);
        }
        Check.due("full", row.count(11), 40);
        for (int i = 5; i >= 0; i--) {
            row.undo();
            Check.due("every", row.count(9), i == 0 ? 40 : 100 + i);
        }
        for (int i = 39; i >= 6; i--) {
            row.undo();
            Check.due("every", row.count(9), i);
        }
        Check.due("none", row.undo(), -1);
        Check.due("every", row.count(9), 6);
    }

    // "They are UNDONE, the last one first.": one of each kind, at the least and the largest PLACES
    private static void eachActUndone() {
        SpoonRow row = Check.told("bolster 1;" + SEVEN);
        row.swap(0, 6);
        row.side(1);
        row.bolster(6, true);
        row.bolster(1, false);
        row.out(5, 600);
        row.word(5, 240);
        row.swap(6, 5);
        Check.due("undone swap", row.undo(), 6);
        Check.due("place", row.sleeper(0, 7), 6);
        Check.due("place", row.sleeper(5, 7), 5);
        Check.due("undone word", row.undo(), 5);
        Check.due("every", row.count(9), 0);
        Check.due("by nobody", row.count(8), -1);
        Check.due("undone out", row.undo(), 4);
        Check.due("OUT", row.sleeper(5, 5), 0);
        Check.due("bits", row.count(5), 64);
        Check.due("undone bolster, taken", row.undo(), 3);
        Check.due("bits", row.count(5), 66);
        Check.due("undone bolster, put", row.undo(), 2);
        Check.due("bits", row.count(5), 2);
        Check.due("FIRST", row.count(7), 1);
        Check.due("undone side", row.undo(), 1);
        Check.due("FIRST", row.count(7), 0);
        Check.due("place", row.sleeper(6, 7), 0);
        Check.due("undone swap", row.undo(), 0);
        Check.due("place", row.sleeper(6, 7), 6);
        Check.due("place", row.sleeper(0, 7), 0);
    }

    // "ACTS, THE WORD, what is SEEN, rows that are kept, the image are gone, FIRST is left"
    private static void actsAndBed() {
        SpoonRow row = Check.told("dog 1;sleeper 9 9 0 1 0 0;");
        row.swap(0, 1);
        row.side(1);
        row.word(1, 5);
        row.out(1, 5);
        row.bolster(6, true);
        row.see(1, 5, 1);
        row.order();
        row.image();
        Check.due("the same text", Check.tell(row, "dog 1;sleeper 9 9 0 1 0 0;"), 0);
        Check.due("they lie as at first", row.sleeper(0, 7), 0);
        Check.due("FIRST is left", row.count(7), 0);
        Check.due("THE WORD is nobody's", row.count(8), -1);
        Check.due("OUT as told", row.sleeper(1, 5), 0);
        Check.due("BOLSTERS as told", row.count(5), 0);
        Check.due("no ACTS", row.count(11), 0);
        Check.due("none to undo", row.undo(), -1);
        Check.due("nothing SEEN", row.count(12), 0);
        Check.due("nothing to forget", row.forget(), -1);
        Check.throwing("no row is kept", NoSuchElementException.class, () -> row.kept(0));
        Check.due("no image", row.restore(), false);
    }

    // "NONE: there is none."
    private static void noAct() {
        SpoonRow row = Check.told("bolster 2;sleeper 9 9 0 1 5 0;");
        row.see(0, 1, 1);
        row.side(7);
        for (int i = 0; i < 3; i++) {
            Check.due("none", row.undo(), -1);
            refused(row, 0, 1, 0);
        }
        Check.due("what is SEEN is no ACT", row.count(12), 1);
        Check.due("nor what the text told", row.count(5), 4);
        Check.due("one", row.swap(0, 0) ? 1 : row.side(1), 0);
        Check.due("undone", row.undo(), 0);
        Check.due("none", row.undo(), -1);
    }

    // "on a side in a minute (0 to 600)"; "NONE (STATUS 2): .. no such side, minute, a dog. NoSuch.. (ahead)"
    private static void seenInMinutes() {
        SpoonRow row = Check.told("night 5;" + SEVEN);
        Check.due("the least", row.see(0, 0, 0), 1);
        Check.due("the largest, beyond the NIGHT", row.see(5, 600, 1), 2);
        int times = 0;
        for (int minute : new int[] {-1, 601, Integer.MIN_VALUE, Integer.MAX_VALUE}) {
            Check.due("minute " + minute, row.see(0, minute, 0), -1);
            times++;
            refused(row, 0, 0, times);
        }
        for (int side : new int[] {-1, 2, Integer.MIN_VALUE, Integer.MAX_VALUE}) {
            Check.due("side " + side, row.see(0, 5, side), -1);
            times++;
            refused(row, 0, 0, times);
        }
        Check.due("a dog", row.see(6, 5, 0), -1);
        refused(row, 0, 0, times + 1);
        for (int s : new int[] {-1, 7, Integer.MIN_VALUE, Integer.MAX_VALUE}) {
            Check.throwing("see(" + s + ", 5, 0)", NoSuchElementException.class, () -> row.see(s, 5, 0));
            Check.throwing("see(" + s + ", 601, 2)", NoSuchElementException.class, () -> row.see(s, 601, 2));
        }
        refused(row, 0, 0, times + 1);
        Check.due("SEEN", row.count(12), 2);
        Check.throwing("nobody", NoSuchElementException.class, () -> new SpoonRow().see(0, 0, 0));
    }

    // "SEEN (at most 8)"; "NONE (STATUS 2): there are 8"
    private static void eightSeen() {
        SpoonRow row = Check.told("bed 1 1;night 9;" + SEVEN);
        for (int i = 1; i <= 8; i++) {
            Check.due("seen", row.see(0, 0, 0), i);
        }
        for (int i = 1; i <= 2; i++) {
            Check.due("a ninth", row.see(0, 0, 1), -1);
            refused(row, 0, 0, i);
            Check.due("SEEN", row.count(12), 8);
        }
        Check.due("the ninth does not count", row.fits(0), 61);
        Check.throwing("nobody, ahead", NoSuchElementException.class, () -> row.see(7, 0, 0));
        Check.due("the last one", row.forget(), 7);
        Check.due("room for one", row.see(0, 0, 1), 8);
        Check.due("the eighth counts", row.fits(0), 0);
        Check.due("full again", row.see(0, 0, 1), -1);
        refused(row, 0, 0, 3);
    }

    // "What was SEEN last is forgotten: how much is left. NONE: there is none."
    private static void noneSeen() {
        SpoonRow row = Check.told(SEVEN);
        row.side(1);
        Check.due("none", row.forget(), -1);
        for (int i = 0; i < 8; i++) {
            row.see(0, 0, 0);
        }
        for (int left = 7; left >= 0; left--) {
            Check.due("forgotten", row.forget(), left);
            Check.due("SEEN", row.count(12), left);
        }
        Check.due("none", row.forget(), -1);
        Check.due("all fits", row.fits(0), 122);
        Check.due("an ACT is not SEEN", row.count(11), 1);
        refused(row, 0, 0, 0);
    }

    // "False: there is none."
    private static void noImage() {
        SpoonRow row = Check.told(SEVEN);
        row.swap(0, 1);
        row.side(2);
        Check.due("none", row.restore(), false);
        Check.due("nothing changes", row.sleeper(0, 7), 1);
        refused(row, 0, 1, 0);
        row.image();
        Check.due("one", row.restore(), true);
        SpoonRow nobody = new SpoonRow();
        nobody.image();
        nobody.side(1);
        Check.due("nobody's", nobody.restore(), true);
        Check.due("FIRST", nobody.count(7), 0);
    }

    // "AN IMAGE is kept, in place of another one."
    private static void anotherImage() {
        SpoonRow row = Check.told(SEVEN);
        row.word(0, 10);
        row.image();
        row.word(0, 20);
        row.image();
        row.word(0, 30);
        for (int i = 0; i < 3; i++) {
            Check.due("restored", row.restore(), true);
            Check.due("the latest", row.count(9), 20);
            Check.due("ACTS", row.count(11), 2);
            row.word(0, 40 + i);
        }
        Check.due("undone", row.undo(), 2);
        Check.due("undone", row.undo(), 1);
        Check.due("undone", row.undo(), 0);
        Check.due("restored", row.restore(), true);
        Check.due("ACTS again", row.count(11), 2);
        Check.due("undone", row.undo(), 1);
        Check.due("what was ahead of the image", row.count(9), 10);
    }

    // "AN IMAGE keeps .. STATUS."
    private static void imageOfStatus() {
        SpoonRow row = Check.told(SEVEN);
        Check.tell(row, "x");
        row.side(2);
        row.side(2);
        row.see(6, 0, 0);
        row.see(6, 0, 0);
        row.see(6, 0, 0);
        row.image();
        Check.tell(row, "x");
        row.side(2);
        row.see(6, 0, 0);
        refused(row, 2, 3, 4);
        Check.due("restored", row.restore(), true);
        refused(row, 1, 2, 3);
    }

    // "ACTS, .. the image are gone"; with a FAULT "all else stays, but STATUS"
    private static void imageAndBed() {
        SpoonRow row = Check.told(SEVEN);
        row.word(0, 10);
        row.image();
        Check.due("a FAULT", Check.tell(row, "x"), 1);
        Check.due("stays", row.restore(), true);
        Check.throwing("no text", IllegalArgumentException.class, () -> row.bed(1));
        Check.due("stays", row.restore(), true);
        Check.due("the same text", Check.tell(row, SEVEN), 0);
        Check.due("gone", row.restore(), false);
        Check.due("gone", row.restore(), false);
        Check.due("no WORD", row.count(9), 0);
    }

    // "AN IMAGE keeps .. ACTS that are kept, what is SEEN": both full
    private static void imageOfFortyActs() {
        SpoonRow row = Check.told(SEVEN);
        for (int i = 1; i <= 41; i++) {
            row.out(0, i);
        }
        for (int i = 0; i < 8; i++) {
            row.see(0, 0, 0);
        }
        row.image();
        for (int i = 100; i <= 140; i++) {
            row.out(0, i);
        }
        for (int i = 0; i < 8; i++) {
            row.forget();
        }
        row.see(0, 0, 1);
        Check.due("restored", row.restore(), true);
        Check.due("ACTS", row.count(11), 40);
        Check.due("SEEN", row.count(12), 8);
        Check.due("fits", row.fits(0), 61);
        for (int left = 39; left >= 0; left--) {
            Check.due("undone", row.undo(), left);
            Check.due("OUT", row.sleeper(0, 5), left + 1);
        }
        Check.due("forgotten", row.forget(), 7);
        Check.due("restored", row.restore(), true);
        Check.due("ACTS", row.count(11), 40);
        Check.due("SEEN", row.count(12), 8);
    }

    // "STATUS stays (without a FAULT)"
    private static void statusThroughBeds() {
        SpoonRow row = Check.told(SEVEN);
        row.side(2);
        row.see(6, 0, 0);
        for (int i = 1; i <= 3; i++) {
            Check.due("a FAULT", Check.tell(row, "x"), 1);
            refused(row, i, 1, 1);
            Check.due("none", Check.tell(row, SEVEN), 0);
            refused(row, i, 1, 1);
        }
    }

    // "An object is used for at most 512 calls after it has been made"
    private static void lastOf512Calls() {
        SpoonRow row = new SpoonRow();
        for (int i = 1; i <= 510; i++) {
            Check.due("refused", row.side(2), -1);
        }
        Check.due("the 511th", row.side(1), 0);
        Check.due("the 512th", row.count(15), 510);
        SpoonRow acts = Check.told("sleeper 9 9 0 1 0 0;");
        for (int i = 3; i <= 511; i++) {
            Check.due("OUT", acts.out(0, i), i == 3 ? 0 : i - 1);
        }
        Check.due("the 512th", acts.count(11), 40);
    }
}
