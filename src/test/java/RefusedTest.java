import java.util.ArrayList;
import java.util.List;
import java.util.function.ToIntFunction;

/** Each call that is refused: what it answers or throws, and that all is as it was but for its STATUS. */
final class RefusedTest {
    private static final String TEXT = "bed 9 1;night 60;awake 5;sleeper 20 15 1 4 7 3;child 9 11 2 3 0 5;dog 3;"
            + "bolster 2;never 0 1;wakes off<light+2;";
    private static final String NOBODY = "throws.java.util.NoSuchElementException";
    private static final String ARGUMENT = "throws.java.lang.IllegalArgumentException";
    private static final int NO_STATUS = -1;
    private static final int TEXTS = 0;
    private static final int ACTS = 1;
    private static final int SEEN = 2;
    private static final int[] OUTSIDE = {Integer.MIN_VALUE, -65, -1, 700, Integer.MAX_VALUE};

    private RefusedTest() {
    }

    static void run() {
        fullTape();
        beds();
        textsWithAFault();
        acts();
        seen();
        nothingLeft();
        questions();
        questionsThatAreAnswered();
        ordersThatAreNone();
    }

    /** An object on which something of everything was done. */
    private static SpoonRow used() {
        SpoonRow row = Check.told(TEXT);
        Check.tell(row, "  dogs;");
        row.swap(0, 2);
        row.side(1);
        row.side(5);
        row.word(0, 9);
        row.image();
        row.bolster(3, true);
        row.bolster(2, false);
        row.out(1, 30);
        row.see(0, 5, 1);
        row.see(2, 5, 1);
        row.see(1, 60, 0);
        row.edge();
        Check.feed(row, "night 5;dog 1;never 0 1;");
        return row;
    }

    /** All that can be asked of an object, asked in such a way that it is used up. */
    private static String all(SpoonRow row) {
        List<String> told = new ArrayList<>();
        now(row, told);
        undoAndForget(row, told);
        boolean isRestored = row.restore();
        told.add("restored " + isRestored);
        for (int what = 14; what < 17 && isRestored; what++) {
            told.add("STATUS " + row.count(what));
        }
        now(row, told);
        undoAndForget(row, told);
        told.add("bed " + row.bed(row.count(13)));
        now(row, told);
        return told.toString();
    }

    private static void now(SpoonRow row, List<String> told) {
        for (int what = 0; what < 14; what++) {
            told.add("count " + what + " " + row.count(what));
        }
        for (int s = 0; s < row.count(0); s++) {
            for (int what = 0; what < 9; what++) {
                told.add("sleeper " + s + " " + what + " " + row.sleeper(s, what));
            }
            told.add("woken " + row.woken(s, 0) + " " + row.woken(s, 1));
        }
        for (int what = 0; what < 4; what++) {
            told.add("night " + what + " " + row.night(what));
        }
        told.add("fault " + row.fault());
        told.add("fits " + row.fits(0) + " " + row.fits(1));
        for (int place = 0; place < 3; place++) {
            int kept = place;
            told.add("kept " + answer(row, r -> r.kept(kept)));
        }
    }

    private static void undoAndForget(SpoonRow row, List<String> told) {
        for (int left = row.undo(); left >= 0; left = row.undo()) {
            told.add(left + " acts: " + row.count(5) + " " + row.count(7) + " " + row.count(8) + " " + row.count(9)
                    + " " + row.sleeper(0, 5) + " " + row.sleeper(1, 5) + " " + row.sleeper(0, 7));
        }
        for (int left = row.forget(); left >= 0; left = row.forget()) {
            told.add(left + " seen: " + row.fits(0) + " " + row.fits(1));
        }
    }

    private static String answer(SpoonRow row, ToIntFunction<SpoonRow> call) {
        try {
            return "" + call.applyAsInt(row);
        } catch (RuntimeException e) {
            return "throws." + e.getClass().getName();
        }
    }

    private static int bit(boolean holds) {
        return holds ? 1 : 0;
    }

    private static void same(String name, String got, String want) {
        Check.due(name, 0, 0);
        if (!got.equals(want)) {
            Check.tellWrong(name + " is " + got + ", due is " + want);
        }
    }

    /** The call answers so, one STATUS (or none) is one more, and all else is as of an object without the call. */
    private static void refused(String name, String due, int status, ToIntFunction<SpoonRow> call) {
        SpoonRow row = used();
        SpoonRow twin = used();
        same(name, answer(row, call), due);
        same(name + " again", answer(row, call), due);
        for (int what = 0; what < 3; what++) {
            int more = what == status ? 2 : 0;
            Check.due(name + ": STATUS " + what, row.count(14 + what), twin.count(14 + what) + more);
        }
        same(name + ": all", all(row), all(twin));
    }

    private static void fullTape() {
        SpoonRow full = used();
        SpoonRow twin = used();
        for (int i = full.count(13); i < 600; i += 20) {
            full.feed(0x20202020, 0x20202020, 0x20202020, 0x20202020, 0x20202020);
            twin.feed(0x20202020, 0x20202020, 0x20202020, 0x20202020, 0x20202020);
        }
        Check.due("full", full.feed(0x64646464, 1, 2, 3, 4), -1);
        same("feed", all(full), all(twin));
    }

    private static void beds() {
        for (int n : new int[] {-1, 41, 60, 600, 601, Integer.MIN_VALUE, Integer.MAX_VALUE}) {
            refused("bed(" + n + ")", ARGUMENT, NO_STATUS, r -> r.bed(n));
        }
    }

    // "0, or the FAULT (all else stays, but STATUS)"
    private static void textsWithAFault() {
        String[] texts = {"x", "night 700;", "wakes foo;", "dog 1;never 0 0;", "bed 1 1;night 9;awake 1;dog 1;dog 1;dog 1;"
            + "dog 1;never 1 2;never 0 3;bolster 1;bolster 5;wakes 0;bed"};
        for (int i = 0; i < texts.length; i++) {
            String text = texts[i];
            SpoonRow row = withTape(text);
            SpoonRow twin = withTape("");
            Check.due("FAULT of " + text, row.bed(text.length()), i + 1);
            Check.due("its place", row.fault() >= 0, true);
            for (int what = 0; what < 3; what++) {
                Check.due("STATUS " + what, row.count(14 + what), twin.count(14 + what) + (what == TEXTS ? 1 : 0));
            }
            same("all but the place", withoutFault(all(row)), withoutFault(all(twin)));
        }
    }

    private static String withoutFault(String all) {
        return all.replaceAll("fault -?[0-9]+", "fault");
    }

    private static SpoonRow withTape(String text) {
        SpoonRow row = Check.told(TEXT);
        row.swap(0, 2);
        row.side(1);
        row.side(5);
        row.word(0, 9);
        row.image();
        row.bolster(3, true);
        row.out(1, 30);
        row.see(0, 5, 1);
        row.see(0, 5, 5);
        row.order();
        Check.feed(row, text);
        return row;
    }

    private static void acts() {
        for (int place : OUTSIDE) {
            refused("swap", "0", ACTS, r -> bit(r.swap(place, 0)));
            refused("swap", "0", ACTS, r -> bit(r.swap(0, place)));
            refused("bolster put", "0", ACTS, r -> bit(r.bolster(place, true)));
            refused("bolster taken", "0", ACTS, r -> bit(r.bolster(place, false)));
            refused("side", "-1", ACTS, r -> r.side(place));
            refused("word", "-1", ACTS, r -> r.word(0, place));
            refused("out", "-1", ACTS, r -> r.out(0, place));
            refused("word of nobody", NOBODY, NO_STATUS, r -> r.word(place, 5));
            refused("out of nobody", NOBODY, NO_STATUS, r -> r.out(place, 5));
        }
        refused("swap, one more PLACE", "0", ACTS, r -> bit(r.swap(3, 0)));
        refused("swap, one more PLACE", "0", ACTS, r -> bit(r.swap(2, 3)));
        refused("swap, both are one", "0", ACTS, r -> bit(r.swap(1, 1)));
        refused("bolster 0", "0", ACTS, r -> bit(r.bolster(0, true)));
        refused("bolster 7", "0", ACTS, r -> bit(r.bolster(7, true)));
        refused("a BOLSTER is there", "0", ACTS, r -> bit(r.bolster(3, true)));
        refused("no BOLSTER is there", "0", ACTS, r -> bit(r.bolster(2, false)));
        refused("side 2", "-1", ACTS, r -> r.side(2));
        refused("word 241", "-1", ACTS, r -> r.word(0, 241));
        refused("word of a dog", "-1", ACTS, r -> r.word(2, 9));
        refused("word of a dog, nobody's", "-1", ACTS, r -> r.word(2, 0));
        refused("word of one more", NOBODY, NO_STATUS, r -> r.word(3, 9));
        refused("out 601", "-1", ACTS, r -> r.out(0, 601));
        refused("out of a dog", "-1", ACTS, r -> r.out(2, 9));
        refused("out of one more", NOBODY, NO_STATUS, r -> r.out(3, 9));
    }

    private static void seen() {
        for (int one : OUTSIDE) {
            refused("see nobody", NOBODY, NO_STATUS, r -> r.see(one, 5, 0));
            refused("see in no minute", "-1", SEEN, r -> r.see(0, one, 0));
            refused("see on no side", "-1", SEEN, r -> r.see(0, 5, one));
        }
        refused("see one more", NOBODY, NO_STATUS, r -> r.see(3, 5, 0));
        refused("see one more, on no side", NOBODY, NO_STATUS, r -> r.see(3, 5, 2));
        refused("see a dog", "-1", SEEN, r -> r.see(2, 5, 0));
        refused("see at 601", "-1", SEEN, r -> r.see(0, 601, 0));
        refused("see on the side 2", "-1", SEEN, r -> r.see(0, 5, 2));
        SpoonRow row = used();
        SpoonRow twin = used();
        for (int i = row.count(12); i < 8; i++) {
            row.see(1, i, i % 2);
            twin.see(1, i, i % 2);
        }
        Check.due("a ninth", row.see(0, 5, 0), -1);
        Check.due("STATUS 2", row.count(16), twin.count(16) + 1);
        same("a ninth: all", all(row), all(twin));
    }

    // undo(), forget(), restore(): "NONE: there is none.", "False: there is none."
    private static void nothingLeft() {
        SpoonRow row = Check.told(TEXT);
        SpoonRow twin = Check.told(TEXT);
        for (int i = 0; i < 2; i++) {
            Check.due("undo", row.undo(), -1);
            Check.due("forget", row.forget(), -1);
            Check.due("restore", row.restore(), false);
        }
        for (int what = 14; what < 17; what++) {
            Check.due("no STATUS", row.count(what), 0);
        }
        same("nothing left: all", all(row), all(twin));
    }

    private static void questions() {
        for (int one : OUTSIDE) {
            refused("count", NOBODY, NO_STATUS, r -> r.count(one));
            refused("sleeper", NOBODY, NO_STATUS, r -> r.sleeper(one, 0));
            refused("sleeper's", NOBODY, NO_STATUS, r -> r.sleeper(0, one));
            refused("night", NOBODY, NO_STATUS, r -> r.night(one));
            refused("woken", NOBODY, NO_STATUS, r -> r.woken(one, 0));
            refused("woken's", NOBODY, NO_STATUS, r -> r.woken(0, one));
            refused("lies", NOBODY, NO_STATUS, r -> r.lies(one, 5, 0));
            refused("lies'", NOBODY, NO_STATUS, r -> r.lies(0, 5, one));
            refused("lies at", ARGUMENT, NO_STATUS, r -> r.lies(0, one, 0));
            refused("turn", NOBODY, NO_STATUS, r -> r.turn(one, 0));
            refused("turn's", NOBODY, NO_STATUS, r -> r.turn(0, one));
            refused("kept", NOBODY, NO_STATUS, r -> r.kept(one));
            refused("every", NOBODY, NO_STATUS, r -> r.every(one, 0));
            refused("every's", NOBODY, NO_STATUS, r -> r.every(0, one));
            refused("bolsters", NOBODY, NO_STATUS, r -> r.bolsters(one));
            refused("free", NOBODY, NO_STATUS, r -> r.free(one));
            refused("outs", NOBODY, NO_STATUS, r -> r.outs(one));
            refused("fair", ARGUMENT, NO_STATUS, r -> r.fair(one, 0));
            refused("fits", NOBODY, NO_STATUS, r -> r.fits(one));
            refused("without", NOBODY, NO_STATUS, r -> r.without(one));
            refused("year", ARGUMENT, NO_STATUS, r -> r.year(one, one, 0));
            refused("year's", NOBODY, NO_STATUS, r -> r.year(one, 1, one));
        }
        refused("fair of nobody", NOBODY, NO_STATUS, r -> r.fair(1, -2));
        refused("fair of one more", NOBODY, NO_STATUS, r -> r.fair(1, 3));
        refused("every of a dog", ARGUMENT, NO_STATUS, r -> r.every(2, 0));
        refused("lies behind the end", ARGUMENT, NO_STATUS, r -> r.lies(0, 61, 0));
        refused("31 fair nights", ARGUMENT, NO_STATUS, r -> r.fair(31, 0));
        refused("41 nights", ARGUMENT, NO_STATUS, r -> r.year(0, 41, 0));
    }

    /** A question changes nothing: used() has asked edge() last, and so have both here. */
    private static void questionsThatAreAnswered() {
        SpoonRow row = used();
        for (int what = 0; what < 2; what++) {
            for (int s = 0; s < 3; s++) {
                row.sleeper(s, what);
                row.woken(s, what);
                row.lies(s, 30, what);
                row.free(s);
                row.fair(5, s);
                row.without(s);
            }
            row.count(what);
            row.night(what);
            row.turn(0, what);
            row.every(0, what);
            row.every(1, what);
            row.bolsters(what);
            row.outs(what);
            row.fits(what);
            row.year(3, 5, what);
        }
        row.fair(30, -1);
        row.orders();
        row.order();
        row.edge();
        row.fault();
        SpoonRow twin = used();
        for (int what = 14; what < 17; what++) {
            Check.due("no STATUS", row.count(what), twin.count(what));
        }
        same("questions: all", all(row), all(twin));
    }

    // "NONE: none; -2: SPENT (in both what is kept stays)"
    private static void ordersThatAreNone() {
        String never = "dog 1;sleeper 9 9 0 1 0 5;never 0 1;";
        SpoonRow row = Check.told(never);
        row.edge();
        SpoonRow twin = Check.told(never);
        twin.edge();
        Check.due("none", row.order(), -1);
        same("none: all", all(row), all(twin));
        String seven = "sleeper 9 9 0 1 0 5;".repeat(7);
        SpoonRow spent = Check.told(seven);
        Check.due("SPENT", spent.order(), -2);
        Check.due("SPENT", spent.orders(), -2);
        Check.due("SPENT", spent.edge(), -2);
        same("SPENT: all", all(spent), all(Check.told(seven)));
        Check.due("no STATUS", spent.count(15), 0);
    }
}
