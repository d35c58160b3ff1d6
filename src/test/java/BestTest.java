import java.util.NoSuchElementException;

/** Promises 17 to 24: orders, the word, bolsters, a free bed, going out by chances. */
final class BestTest {
    // 0 wakes whom he lies near to: 1 up to off 1, 2 up to off 2; both turn along at 20, 40 and 60.
    private static final String THREE = "bed 9 1;night 60;awake 0;sleeper 20 20 0 3 0 3;"
            + "sleeper 99 99 1 3 0 0;sleeper 99 99 2 3 0 4;";

    private BestTest() {
    }

    static void run() {
        orders();
        order();
        orderLeavesAllElse();
        kept();
        every();
        bolsters();
        free();
        outs();
        edge();
        spent();
    }

    private static void kept(SpoonRow row, int... due) {
        for (int place = 0; place < due.length; place++) {
            Check.due("kept(" + place + ")", row.kept(place), due[place]);
        }
    }

    private static void orders() {
        String four = "dog 1;dog 1;dog 1;dog 1;";
        Check.due("none", new SpoonRow().orders(), 1);
        Check.due("one", Check.told("dog 1;").orders(), 1);
        Check.due("four", Check.told(four).orders(), 24);
        Check.due("four, one NEVER", Check.told(four + "never 0 1;").orders(), 12);
        Check.due("four, 0 beside 1 alone", Check.told(four + "never 0 2;never 3 0;").orders(), 4);
        Check.due("a bolster does not matter", Check.told(four + "never 0 2;never 0 3;bolster 1;"
                + "bolster 2;bolster 3;").orders(), 4);
        Check.due("four, 0 beside nobody", Check.told(four + "never 0 1;never 0 2;never 0 3;").orders(), 0);
        Check.due("three, two orders", Check.told("dog 1;dog 1;dog 1;never 2 0;").orders(), 2);
        Check.due("six", Check.told("dog 1;".repeat(6)).orders(), 720);
        SpoonRow row = Check.told(four);
        row.swap(0, 3);
        Check.due("as they lie", row.orders(), 24);
    }

    private static void order() {
        SpoonRow row = Check.told(THREE);
        // 0 at one end, 1 off by 2, 2 off by 1: 3; 0, 1, 2: 6; 1, 0, 2: 6
        Check.due("order", row.order(), 3);
        kept(row, 0, 2, 1);
        Check.due("as it is", row.night(1), 6);
        SpoonRow never = Check.told(THREE + "never 2 1;");
        Check.due("1 and 2 apart", never.order(), 6);
        kept(never, 1, 0, 2);
        SpoonRow none = Check.told(THREE + "never 2 1;never 0 1;never 0 2;");
        Check.due("none", none.order(), -1);
        Check.due("none", none.orders(), 0);
        Check.throwing("none is kept", NoSuchElementException.class, () -> none.kept(0));
        Check.due("edge", none.edge(), 3);
        Check.due("none", none.order(), -1);
        kept(none, 1, 0, 2);
        Check.due("nobody", new SpoonRow().order(), 0);
        theLastOrderOfSix();
    }

    /** Who lies as far from the edge as he is light sleeps on, so that only 5 4 3 2 1 0 wakes nobody. */
    private static void theLastOrderOfSix() {
        SpoonRow row = Check.told("bed 1 1;night 5;wakes not light = edge;sleeper 5 5 0 1 0 0;"
                + "sleeper 9 9 1 1 0 0;sleeper 9 9 2 1 0 0;sleeper 9 9 3 1 0 0;sleeper 9 9 4 1 0 0;"
                + "sleeper 9 9 5 1 0 0;");
        Check.due("as it is", row.night(1), 5);
        Check.due("orders", row.orders(), 720);
        Check.due("order", row.order(), 0);
        kept(row, 5, 4, 3, 2, 1, 0);
    }

    private static void orderLeavesAllElse() {
        SpoonRow row = Check.told(THREE + "bolster 1;");
        row.swap(0, 1);
        row.word(2, 7);
        row.out(0, 5);
        int night = row.night(1);
        row.order();
        row.edge();
        row.every(0, 0);
        row.bolsters(0);
        row.free(0);
        row.fair(5, 0);
        row.fits(0);
        row.without(0);
        row.year(1, 2, 0);
        Check.due("the night", row.night(1), night);
        Check.due("place", row.sleeper(0, 7), 1);
        Check.due("by", row.count(8), 2);
        Check.due("every", row.count(9), 7);
        Check.due("bolsters", row.count(5), 2);
        Check.due("out", row.sleeper(0, 5), 5);
        Check.due("free", row.count(10), 0);
        Check.due("acts", row.count(11), 3);
        Check.due("STATUS", row.count(15), 0);
    }

    private static void kept() {
        SpoonRow row = Check.told(THREE);
        Check.throwing("kept(0)", NoSuchElementException.class, () -> row.kept(0));
        row.order();
        row.swap(1, 2);
        row.image();
        row.restore();
        row.undo();
        kept(row, 0, 2, 1);
        row.edge();
        kept(row, 1, 0, 2);
        for (int place : new int[] {-1, 3, 7, Integer.MIN_VALUE, Integer.MAX_VALUE}) {
            Check.throwing("kept(" + place + ")", NoSuchElementException.class, () -> row.kept(place));
        }
        SpoonRow nobody = new SpoonRow();
        nobody.order();
        Check.throwing("nobody's", NoSuchElementException.class, () -> nobody.kept(0));
    }

    private static void every() {
        SpoonRow row = Check.told("bed 2 1;night 240;awake 0;sleeper 100 100 0 1 0 0;"
                + "sleeper 240 240 1 1 0 0;dog 1;");
        // without a word 0 wakes 1 at 100 and 200
        Check.due("as it is", row.night(1), 2);
        // 1 wakes nobody: every 70, 140, 210 minutes he turns ahead of 0; more often does as well
        Check.due("every 1", row.every(1, 0), 1);
        Check.due("woken then", row.every(1, 1), 0);
        // 0's word wakes 1: but at 240 alone, and 100 later is 340, it comes too late for the turns at 100, 200
        Check.due("every 0", row.every(0, 0), 0);
        Check.due("woken then", row.every(0, 1), 2);
        row.word(1, 1);
        Check.due("whoever says it now", row.every(0, 0), 0);
        Check.due("woken then", row.every(0, 1), 2);
        Check.due("word stays", row.count(8), 1);
        SpoonRow late = Check.told("bed 2 1;night 240;awake 0;sleeper 240 240 0 1 0 0;"
                + "sleeper 99 99 1 1 0 0;wakes turns = 0 and not hour = 4;");
        Check.due("240 alone", late.every(0, 0), 0);
        SpoonRow most = Check.told("bed 2 1;night 240;awake 0;sleeper 240 240 0 1 0 0;"
                + "sleeper 240 240 1 1 0 0;wakes hour < 4 or off = edge + 1;");
        // by nobody's word 0 turns at 240 and wakes 1 (off 1, edge 0); by 1's word at 240 0 is not (edge 1)
        Check.due("240", most.every(1, 0), 240);
        Check.due("woken then", most.every(1, 1), 0);
        Check.throwing("a dog", IllegalArgumentException.class, () -> row.every(2, 0));
        Check.throwing("a dog, what", NoSuchElementException.class, () -> row.every(2, 2));
        Check.throwing("what", NoSuchElementException.class, () -> row.every(0, -1));
        Check.throwing("nobody", NoSuchElementException.class, () -> row.every(3, 0));
        Check.throwing("nobody", NoSuchElementException.class, () -> row.every(-1, 0));
    }

    private static void bolsters() {
        SpoonRow row = Check.told(THREE);
        // ahead of 1: 1 and 2 by themselves, not woken by 99 bearing ones within 60 minutes
        Check.due("set", row.bolsters(0), 2);
        Check.due("woken", row.bolsters(1), 0);
        row.bolster(2, true);
        Check.due("all else but bolsters", row.bolsters(0), 2);
        row.swap(0, 1);
        // 1, 0, 2: it needs both
        Check.due("both", row.bolsters(0), 6);
        Check.due("woken", row.bolsters(1), 0);
        row.swap(1, 2);
        Check.due("1, 2, 0", row.bolsters(0), 4);
        Check.due("free", Check.told(THREE.replace("bed 9", "bed 10")).bolsters(0), 0);
        Check.due("nobody", new SpoonRow().bolsters(0), 0);
        SpoonRow two = Check.told("bed 1 1;night 9;sleeper 5 5 0 1 0 0;sleeper 99 99 1 1 0 0;");
        Check.due("two", two.bolsters(0), 2);
        Check.due("two", two.bolsters(1), 0);
        SpoonRow one = Check.told("bed 1 1;night 90;sleeper 5 5 5 5 0 0;bolster 1;");
        Check.due("one", one.bolsters(0), 0);
        Check.due("one", one.bolsters(1), 0);
        // woken at 10 by who lies beside, but for a bolster ahead of 6
        SpoonRow seven = Check.told("bed 1 1;night 15;" + "dog 1;".repeat(5)
                + "sleeper 10 10 0 1 0 0;sleeper 99 99 1 1 0 0;");
        Check.due("ahead of 6", seven.bolsters(0), 64);
        SpoonRow like = Check.told("bed 1 1;night 15;sleeper 10 10 0 1 0 0;dog 1;sleeper 99 99 2 1 0 0;");
        Check.due("of like ones the least bits", like.bolsters(0), 2);
        for (int what : new int[] {-1, 2, Integer.MIN_VALUE, Integer.MAX_VALUE}) {
            Check.throwing("bolsters(" + what + ")", NoSuchElementException.class, () -> row.bolsters(what));
        }
    }

    private static void free() {
        SpoonRow row = Check.told(THREE);
        Check.due("free(1)", row.free(1), 0);
        Check.due("as it is", row.woken(1, 0), 3);
        row.word(0, 25);
        Check.due("by the word", row.free(1), 2);
        Check.due("by the word", row.free(0), 0);
        row.word(0, 0);
        row.out(0, 7);
        Check.due("by one who goes", row.free(2), 1);
        Check.throwing("nobody", NoSuchElementException.class, () -> row.free(3));
        Check.throwing("nobody", NoSuchElementException.class, () -> row.free(-1));
    }

    private static void fraction(SpoonRow row, int upper, int lower) {
        Check.due("upper", row.outs(0), upper);
        Check.due("lower", row.outs(1), lower);
    }

    private static void outs() {
        SpoonRow row = Check.told(THREE);
        fraction(row, 3, 5);
        row.swap(0, 2);
        fraction(row, 4, 5);
        row.swap(1, 2);
        fraction(row, 11, 10);
        fraction(new SpoonRow(), 0, 1);
        String chances = "sleeper 9 9 9 1 0 10;child 9 9 9 1 0 5;dog 1;snorer 9 9 9 1 0 7;";
        fraction(Check.told(chances), 3, 2);
        fraction(Check.told(chances + "child 9 9 9 1 0 10;dog 9;"), 3, 2);
        fraction(Check.told("sleeper 9 9 9 1 0 10;".repeat(7)), 21, 1);
        fraction(Check.told("child 9 9 9 1 0 10;".repeat(7)), 0, 1);
        for (int what : new int[] {-1, 2, Integer.MIN_VALUE, Integer.MAX_VALUE}) {
            Check.throwing("outs(" + what + ")", NoSuchElementException.class, () -> row.outs(what));
        }
    }

    private static void edge() {
        SpoonRow row = Check.told(THREE);
        row.swap(0, 2);
        // 1, 0, 2: 3 by 1
        Check.due("edge", row.edge(), 3);
        kept(row, 1, 0, 2);
        SpoonRow like = Check.told("sleeper 9 9 9 1 0 2;sleeper 9 9 9 1 0 2;sleeper 9 9 9 1 0 1;never 2 0;");
        Check.due("like ones, NEVER not asked", like.edge(), 4);
        kept(like, 2, 0, 1);
        SpoonRow child = Check.told("child 9 9 9 1 0 10;dog 1;sleeper 9 9 9 1 0 1;");
        SpoonRow six = Check.told("sleeper 9 9 9 1 0 6;sleeper 9 9 9 1 0 5;sleeper 9 9 9 1 0 4;"
                + "sleeper 9 9 9 1 0 3;sleeper 9 9 9 1 0 2;sleeper 9 9 9 1 0 1;");
        Check.due("the last order of six", six.edge(), 5 + 2 * 4 + 3 * 3 + 4 * 2 + 5);
        kept(six, 5, 4, 3, 2, 1, 0);
        Check.due("a child goes, too", child.edge(), 0);
        kept(child, 1, 2, 0);
        Check.due("nobody", new SpoonRow().edge(), 0);
    }

    private static void spent() {
        SpoonRow row = Check.told("dog 1;".repeat(7));
        Check.due("orders", row.orders(), -2);
        Check.due("order", row.order(), -2);
        Check.due("edge", row.edge(), -2);
        Check.throwing("kept(0)", NoSuchElementException.class, () -> row.kept(0));
        Check.due("outs", row.outs(1), 1);
        Check.due("bolsters", row.bolsters(0), 0);
    }
}
