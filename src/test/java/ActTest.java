import java.util.NoSuchElementException;

/** Promises 7 to 12, 26, 27, 31 and 32: what is done, seen, undone and kept in an image. */
final class ActTest {
    private static final String TEXT = "sleeper 10 20 3 4 50 6;child 5 6 1 1 0 0;dog 2;bolster 2;";

    private ActTest() {
    }

    static void run() {
        swap();
        side();
        word();
        bolster();
        out();
        undo();
        latestFortyActs();
        see();
        forget();
        image();
    }

    private static SpoonRow row() {
        return Check.told(TEXT);
    }

    private static void status(SpoonRow row, int acts, int seen) {
        Check.due("STATUS 1", row.count(15), acts);
        Check.due("STATUS 2", row.count(16), seen);
    }

    private static void swap() {
        SpoonRow row = row();
        Check.due("swap", row.swap(2, 0), true);
        Check.due("place", row.sleeper(0, 7), 2);
        Check.due("place", row.sleeper(2, 7), 0);
        Check.due("by places", row.swap(0, 1), true);
        Check.due("place", row.sleeper(2, 7), 1);
        Check.due("place", row.sleeper(1, 7), 0);
        int[][] none = {{1, 1}, {-1, 0}, {0, -1}, {3, 0}, {0, 3}, {3, 3}, {Integer.MIN_VALUE, 0}};
        for (int[] two : none) {
            Check.due("swap of none", row.swap(two[0], two[1]), false);
        }
        status(row, none.length, 0);
        Check.due("acts", row.count(11), 2);
    }

    private static void side() {
        SpoonRow row = row();
        Check.due("side(1)", row.side(1), 0);
        Check.due("first", row.count(7), 1);
        Check.due("side(1) again", row.side(1), 1);
        Check.due("acts", row.count(11), 2);
        Check.due("side(2)", row.side(2), -1);
        Check.due("side(-1)", row.side(-1), -1);
        Check.due("first", row.count(7), 1);
        Check.due("side(0)", row.side(0), 1);
        status(row, 2, 0);
    }

    private static void word() {
        SpoonRow row = row();
        Check.due("word", row.word(1, 240), 0);
        Check.due("by", row.count(8), 1);
        Check.due("every", row.count(9), 240);
        Check.due("word again", row.word(1, 240), 240);
        Check.due("word of another", row.word(0, 1), 240);
        Check.due("by", row.count(8), 0);
        Check.due("241", row.word(0, 241), -1);
        Check.due("-1", row.word(0, -1), -1);
        Check.due("a dog", row.word(2, 5), -1);
        Check.due("a dog, nobody's", row.word(2, 0), -1);
        Check.due("every", row.count(9), 1);
        status(row, 4, 0);
        Check.due("nobody's", row.word(1, 0), 1);
        Check.due("by", row.count(8), -1);
        Check.due("every", row.count(9), 0);
        Check.due("nobody's again", row.word(1, 0), 0);
        Check.due("acts", row.count(11), 5);
        Check.throwing("no such one", NoSuchElementException.class, () -> row.word(3, 5));
        Check.throwing("no such one", NoSuchElementException.class, () -> row.word(-1, 500));
        status(row, 4, 0);
    }

    private static void bolster() {
        SpoonRow row = row();
        Check.due("put", row.bolster(6, true), true);
        Check.due("bits", row.count(5), 68);
        Check.due("put again", row.bolster(6, true), false);
        Check.due("taken", row.bolster(2, false), true);
        Check.due("bits", row.count(5), 64);
        Check.due("taken again", row.bolster(2, false), false);
        for (int place : new int[] {0, 7, -1, 34, 38, Integer.MIN_VALUE}) {
            Check.due("put at " + place, row.bolster(place, true), false);
            Check.due("taken at " + place, row.bolster(place, false), false);
        }
        Check.due("put at 1", row.bolster(1, true), true);
        Check.due("bits", row.count(5), 66);
        status(row, 14, 0);
        Check.due("acts", row.count(11), 3);
    }

    private static void out() {
        SpoonRow row = row();
        Check.due("out", row.out(0, 600), 50);
        Check.due("out again", row.out(0, 600), 600);
        Check.due("out 0", row.out(0, 0), 600);
        Check.due("of a child", row.out(1, 7), 0);
        Check.due("acts", row.count(11), 4);
        Check.due("601", row.out(0, 601), -1);
        Check.due("-1", row.out(0, -1), -1);
        Check.due("a dog", row.out(2, 5), -1);
        status(row, 3, 0);
        Check.due("out of 0", row.sleeper(0, 5), 0);
        Check.due("out of 1", row.sleeper(1, 5), 7);
        Check.throwing("no such one", NoSuchElementException.class, () -> row.out(3, 5));
        Check.throwing("no such one", NoSuchElementException.class, () -> row.out(-1, 5));
        status(row, 3, 0);
    }

    private static void undo() {
        SpoonRow row = row();
        Check.due("none", row.undo(), -1);
        row.swap(0, 1);
        row.side(1);
        row.word(0, 9);
        row.word(1, 8);
        row.bolster(2, false);
        row.bolster(3, true);
        row.out(0, 3);
        Check.due("undo out", row.undo(), 6);
        Check.due("out", row.sleeper(0, 5), 50);
        Check.due("undo put", row.undo(), 5);
        Check.due("bits", row.count(5), 0);
        Check.due("undo taken", row.undo(), 4);
        Check.due("bits", row.count(5), 4);
        Check.due("undo word", row.undo(), 3);
        Check.due("by", row.count(8), 0);
        Check.due("every", row.count(9), 9);
        Check.due("undo word", row.undo(), 2);
        Check.due("by", row.count(8), -1);
        Check.due("every", row.count(9), 0);
        Check.due("undo side", row.undo(), 1);
        Check.due("first", row.count(7), 0);
        Check.due("place", row.sleeper(0, 7), 1);
        Check.due("undo swap", row.undo(), 0);
        Check.due("place", row.sleeper(0, 7), 0);
        Check.due("none", row.undo(), -1);
        status(row, 0, 0);
    }

    private static void latestFortyActs() {
        SpoonRow row = row();
        for (int minute = 1; minute <= 45; minute++) {
            row.out(0, minute);
        }
        Check.due("kept", row.count(11), 40);
        for (int left = 39; left >= 0; left--) {
            Check.due("undo", row.undo(), left);
            Check.due("out", row.sleeper(0, 5), left + 5);
        }
        Check.due("none", row.undo(), -1);
        Check.due("out", row.sleeper(0, 5), 5);
    }

    private static void see() {
        SpoonRow row = row();
        Check.due("a dog", row.see(2, 0, 0), -1);
        Check.due("a side", row.see(0, 0, 2), -1);
        Check.due("a side", row.see(0, 0, -1), -1);
        Check.due("a minute", row.see(0, -1, 0), -1);
        Check.due("a minute", row.see(0, 601, 0), -1);
        for (int i = 1; i <= 8; i++) {
            Check.due("seen", row.see(i % 2, 75 * i, i % 2), i);
        }
        Check.due("a ninth", row.see(0, 0, 0), -1);
        Check.throwing("nobody", NoSuchElementException.class, () -> row.see(3, 0, 0));
        Check.throwing("nobody", NoSuchElementException.class, () -> row.see(-1, 900, 7));
        status(row, 0, 6);
        Check.due("seen", row.count(12), 8);
        Check.due("no act", row.count(11), 0);
    }

    private static void forget() {
        SpoonRow row = row();
        Check.due("none", row.forget(), -1);
        row.see(0, 0, 1);
        row.see(0, 0, 0);
        Check.due("no way is both", row.fits(0), 0);
        Check.due("the last one", row.forget(), 1);
        Check.due("only those with FIRST 1", row.fits(1), 100);
        Check.due("the first one", row.forget(), 0);
        Check.due("none", row.forget(), -1);
        status(row, 0, 0);
    }

    private static void image() {
        SpoonRow row = row();
        Check.due("none", row.restore(), false);
        row.swap(0, 1);
        row.side(1);
        row.word(0, 9);
        row.bolster(3, true);
        row.out(0, 3);
        row.see(0, 5, 0);
        row.side(5);
        row.see(0, 5, 5);
        row.image();
        row.swap(1, 2);
        row.side(0);
        row.word(1, 8);
        row.bolster(2, false);
        row.out(0, 4);
        row.out(1, 5);
        row.forget();
        row.side(5);
        row.see(0, 5, 5);
        Check.tell(row, "x");
        row.feed(1, 2, 3, 4, 5);
        row.order();
        for (int times = 0; times < 2; times++) {
            Check.due("restored", row.restore(), true);
            int[] due = {3, 20, 3, 480, 15, 12, 0, 1, 0, 9, 1, 5, 1, 20, 0, 1, 1};
            for (int what = 0; what < due.length; what++) {
                Check.due("restored: count(" + what + ")", row.count(what), due[what]);
            }
            Check.due("restored place", row.sleeper(0, 7), 1);
            Check.due("restored place", row.sleeper(2, 7), 2);
            Check.due("restored out", row.sleeper(0, 5), 3);
            Check.due("restored out", row.sleeper(1, 5), 0);
            Check.due("no part of it: the fault", row.fault(), 0);
            Check.due("no part of it: what is kept", row.kept(0), 0);
            Check.due("undo", row.undo(), 4);
            Check.due("undone out", row.sleeper(0, 5), 50);
            row.swap(0, 2);
        }
        row.image();
        Check.due("in place of it", row.restore(), true);
        Check.due("place", row.sleeper(1, 7), 2);
        Check.due("acts", row.count(11), 5);
    }
}
