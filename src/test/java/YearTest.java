import java.util.NoSuchElementException;

/** Promises 25 and 28 to 30: fair nights, what fits, who is not there, years. */
final class YearTest {
    // 0 wakes 1 where he lies beside him, at 20, 40 and 60; nobody wakes 0.
    private static final String THREE = "bed 9 1;night 60;awake 0;sleeper 20 20 0 3 0 0;"
            + "sleeper 99 99 1 3 0 0;sleeper 99 99 0 3 0 0;";

    private YearTest() {
    }

    static void run() {
        fair();
        fits();
        fitsByWhom();
        without();
        year();
        yearByDraws();
    }

    private static void fair() {
        SpoonRow row = Check.told(THREE);
        Check.due("no night", row.fair(0, 1), 0);
        Check.due("0 1 2", row.fair(1, 1), 3);
        Check.due("2 0 1", row.fair(2, 1), 6);
        Check.due("1 2 0", row.fair(3, 1), 6);
        Check.due("0 1 2 again", row.fair(4, 1), 9);
        Check.due("30 nights", row.fair(30, 1), 60);
        Check.due("0", row.fair(30, 0), 0);
        Check.due("apart", row.fair(30, -1), 60);
        Check.due("apart in none", row.fair(0, -1), 0);
        row.swap(0, 2);
        Check.due("2 1 0", row.fair(1, 1), 3);
        Check.due("0 2 1", row.fair(2, 1), 3);
        Check.due("1 0 2", row.fair(3, 1), 6);
        Check.due("bed", Check.tell(row, THREE.replace("sleeper 20", "child 20") + "dog 1;"), 0);
        Check.due("children and dogs left out", row.fair(1, -1), 3);
        Check.due("a dog", row.fair(1, 3), 0);
        Check.due("bed", Check.tell(row, "bed 2 1;awake 0;night 60;child 20 20 0 1 0 0;"
                + "sleeper 99 99 1 1 0 0;dog 1;"), 0);
        Check.due("woken", row.fair(1, 1), 3);
        Check.due("fewer than two", row.fair(1, -1), 0);
        Check.due("nobody", new SpoonRow().fair(30, -1), 0);
        for (int n : new int[] {-1, 31, Integer.MIN_VALUE, Integer.MAX_VALUE}) {
            Check.throwing("fair(" + n + ", 0)", IllegalArgumentException.class, () -> row.fair(n, 0));
            Check.throwing("fair(" + n + ", -1)", IllegalArgumentException.class, () -> row.fair(n, -1));
            Check.throwing("fair(" + n + ", 3)", NoSuchElementException.class, () -> row.fair(n, 3));
        }
        Check.throwing("fair(1, -2)", NoSuchElementException.class, () -> row.fair(1, -2));
    }

    private static void fitting(SpoonRow row, int many, int first) {
        Check.due("how many fit", row.fits(0), many);
        Check.due("the first that fits", row.fits(1), first);
    }

    private static void fits() {
        SpoonRow row = Check.told("bed 9 1;night 60;sleeper 240 240 0 9 0 0;");
        fitting(row, 122, 0);
        row.see(0, 0, 0);
        fitting(row, 61, 0);
        row.see(0, 10, 1);
        // an odd number of words in 10 minutes: 1 3? 10/1 10/2=5 10/3=3 10/4=2 10/5=2 10/6..10=1
        fitting(row, 7, 2);
        row.see(0, 9, 0);
        // an even number in 9, an odd one in 10: 2 (4, 5), 10 (0, 1)
        fitting(row, 2, 2);
        row.see(0, 600, 0);
        // the end of the night: 30 by 2 is even, 6 by 10 is even
        fitting(row, 2, 2);
        row.see(0, 60, 1);
        fitting(row, 0, -1);
        row.forget();
        row.forget();
        row.see(0, 61, 1);
        fitting(row, 0, -1);
        SpoonRow late = Check.told("bed 9 1;night 60;sleeper 240 240 0 9 0 0;");
        late.see(0, 59, 1);
        late.see(0, 60, 0);
        // FIRST 0: odd up to 59, even at 60: 60/e even, 59/e odd: e divides 60 with an even part
        // 1 (59, 60), 2 (29, 30), 3 (19, 20), 5 (11, 12), 6 (9, 10), 10 (5, 6), 15 (3, 4), 30 (1, 2)
        // FIRST 1: even up to 59, odd at 60: 4 (14, 15), 12 (4, 5), 20 (2, 3), 60 (0, 1)
        fitting(late, 12, 1);
        late.see(0, 1, 1);
        fitting(late, 5, 1);
        late.side(1);
        late.word(0, 7);
        fitting(late, 5, 1);
        Check.due("stays", late.count(7), 1);
        for (int what : new int[] {-1, 2, Integer.MIN_VALUE, Integer.MAX_VALUE}) {
            Check.throwing("fits(" + what + ")", NoSuchElementException.class, () -> row.fits(what));
        }
        fitting(new SpoonRow(), 122, 0);
    }

    private static void fitsByWhom() {
        // whoever says it, all turn but the dog, who is SLEEPER 0
        SpoonRow row = Check.told("dog 1;bed 1 1;night 60;sleeper 240 240 0 9 0 0;sleeper 9 9 9 9 0 0;");
        row.see(1, 5, 0);
        row.see(1, 6, 1);
        row.see(1, 8, 1);
        // FIRST 0: 6; FIRST 1: 1 (5, 6, 8), 3 (1, 2, 2)
        fitting(row, 3, 6);
        row.word(2, 8);
        fitting(row, 3, 6);
        Check.due("by", row.count(8), 2);
    }

    private static void without() {
        SpoonRow row = Check.told(THREE.replace("bed 9", "bed 5"));
        Check.due("but for 0", row.without(0), 3);
        Check.due("but for 1", row.without(1), 0);
        Check.due("but for 2", row.without(2), 0);
        row.swap(1, 2);
        // 0, 2, 1: but for 2 0 lies beside 1
        Check.due("below 0: more", row.without(2), -3);
        row.word(0, 30);
        // 30 and 60 by the word of 0, 20 and 50 by him: he lies off by 2 of 1
        Check.due("the word is nobody's", row.without(0), 0);
        Check.due("of another it stays", row.without(2), -4);
        SpoonRow narrow = Check.told("bed 8 1;night 60;awake 0;sleeper 20 20 0 3 0 0;sleeper 99 99 1 3 0 0;"
                + "dog 1;dog 9;");
        Check.due("not free", narrow.count(10), 0);
        Check.due("free but for the dog", narrow.without(3), 3);
        Check.due("not free but for the other", narrow.without(2), 0);
        SpoonRow stay = Check.told("bed 4 1;night 60;awake 0;dog 1;dog 1;sleeper 20 20 0 1 0 0;"
                + "sleeper 99 99 1 1 0 0;bolster 2;");
        // the bolster stays ahead of the place 2, where the second sleeper lies then
        Check.due("bolsters stay", stay.without(0), 3);
        SpoonRow out = Check.told("bed 99 1;night 60;sleeper 99 99 0 1 7 0;sleeper 99 99 1 1 0 0;");
        Check.due("he goes out no more", out.without(0), 1);
        Check.due("him not counted", out.without(1), 0);
        Check.due("one alone", Check.told("sleeper 1 1 1 1 1 1;").without(0), 0);
        Check.throwing("nobody", NoSuchElementException.class, () -> row.without(3));
        Check.throwing("nobody", NoSuchElementException.class, () -> row.without(-1));
        Check.throwing("nobody", NoSuchElementException.class, () -> new SpoonRow().without(0));
    }

    private static void years(SpoonRow row, int seed, int n, int all, int most, int still) {
        Check.due("all", row.year(seed, n, 0), all);
        Check.due("the most", row.year(seed, n, 1), most);
        Check.due("still nights", row.year(seed, n, 2), still);
    }

    private static void year() {
        SpoonRow row = Check.told("night 60;sleeper 99 99 0 1 0 10;sleeper 99 99 0 1 0 0;");
        years(row, 7, 0, 0, 0, 0);
        years(row, 7, 40, 40, 1, 0);
        row.swap(0, 1);
        years(row, 7, 40, 0, 0, 40);
        row.out(1, 5);
        Check.due("by the told OUT", row.night(1), 1);
        years(row, 7, 40, 0, 0, 40);
        Check.due("OUT stays", row.sleeper(1, 5), 5);
        years(new SpoonRow(), 7, 40, 0, 0, 40);
        for (int n : new int[] {-1, 41, Integer.MIN_VALUE, Integer.MAX_VALUE}) {
            Check.throwing("n " + n, IllegalArgumentException.class, () -> row.year(1, n, 0));
            Check.throwing("n and what " + n, NoSuchElementException.class, () -> row.year(1, n, 3));
        }
        Check.throwing("what -1", NoSuchElementException.class, () -> row.year(1, 1, -1));
        Check.throwing("what 3", NoSuchElementException.class, () -> row.year(1, 1, 3));
    }

    private static long seed;

    private static int draw(int n) {
        seed = seed * 1103515245L + 12345L & 0xffffffffL;
        return (int) ((seed >> 16) % 32768 % n);
    }

    /** Two go over a third one, who is woken once if they go less than AWAKE minutes apart. */
    private static void yearByDraws() {
        SpoonRow row = Check.told("night 90;awake 30;dog 1;sleeper 99 99 0 1 0 4;child 99 99 0 1 0 7;"
                + "snorer 99 99 0 1 0 9;");
        for (int start : new int[] {0, 1, 5, -1, 123456789, Integer.MIN_VALUE, Integer.MAX_VALUE}) {
            seed = start & 0xffffffffL;
            int all = 0;
            int most = 0;
            int still = 0;
            for (int i = 0; i < 40; i++) {
                int one = draw(10) < 4 ? 1 + draw(90) : 0;
                int two = draw(10) < 7 ? 1 + draw(90) : 0;
                if (draw(10) < 9) {
                    draw(90);
                }
                int gone = (one > 0 ? 1 : 0) + (two > 0 ? 1 : 0);
                int woken = gone == 2 && Math.abs(one - two) < 30 ? 1 : gone;
                all += woken;
                most = Math.max(most, woken);
                still += woken == 0 ? 1 : 0;
            }
            years(row, start, 40, all, most, still);
        }
    }
}
