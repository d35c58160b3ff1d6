import java.util.NoSuchElementException;

/** Promises 13 to 16: a night, minute by minute. */
final class NightTest {
    private static final String THREE = "night 60;awake 10;sleeper 20 20 5 3 0 0;sleeper 30 30 0 3 0 0;"
            + "sleeper 50 50 2 3 0 0;";

    private NightTest() {
    }

    static void run() {
        together();
        alone();
        bolstersPart();
        theWord();
        wordAndTurnInOneMinute();
        awake();
        sidesBearDifferently();
        childrenAndDogs();
        goingOut();
        quiet();
        manyTurns();
        rules();
        values();
        wrong();
    }

    private static void night(String name, SpoonRow row, int... due) {
        for (int what = 0; what < 4; what++) {
            Check.due(name + ": night(" + what + ")", row.night(what), due[what]);
        }
    }

    private static void turn(SpoonRow row, int i, int... due) {
        for (int what = 0; what < 4; what++) {
            Check.due("turn(" + i + ", " + what + ")", row.turn(i, what), due[what]);
        }
    }

    private static void woken(SpoonRow row, int... due) {
        for (int s = 0; s < due.length; s++) {
            Check.due("woken(" + s + ", 0)", row.woken(s, 0), due[s]);
        }
    }

    private static void begun(SpoonRow row, int... due) {
        for (int s = 0; s < due.length; s++) {
            Check.due("woken(" + s + ", 1)", row.woken(s, 1), due[s]);
        }
    }

    private static void together() {
        SpoonRow row = Check.told(THREE + "bed 9 1;");
        night("together", row, 3, 3, 19, 2);
        woken(row, 0, 0, 3);
        begun(row, 3, 0, 0);
        turn(row, 0, 20, 0, 1, 0);
        turn(row, 2, 60, 0, 1, 0);
        for (int s = 0; s < 3; s++) {
            Check.due("lies at 19", row.lies(s, 19, 0), 0);
            Check.due("lies at 20", row.lies(s, 20, 0), 1);
            Check.due("lies at 39", row.lies(s, 39, 0), 1);
            Check.due("lies at 40", row.lies(s, 40, 0), 0);
            Check.due("lies at 60", row.lies(s, 60, 0), 1);
        }
        row.swap(0, 2);
        // He who bears the least lies at the edge now: 2 in the place 0 is off by 2, 1 by 1 as ever.
        night("swapped", row, 3, 3, 19, 2);
        row.swap(0, 1);
        // 1, 2, 0: 2 is off by 1, and 1 by 2.
        woken(row, 0, 0, 3);
        Check.due("bed", Check.tell(row, THREE.replace("5 3", "0 3") + "bed 9 1;"), 0);
        night("the same of all", row, 3, 3, 19, 2);
    }

    private static void alone() {
        SpoonRow row = Check.told(THREE + "bed 10 1;");
        night("alone", row, 6, 0, 19, 0);
        int[][] due = {{20, 0}, {30, 1}, {40, 0}, {50, 2}, {60, 0}, {60, 1}};
        for (int i = 0; i < due.length; i++) {
            turn(row, i, due[i][0], due[i][1], 0, 0);
        }
        begun(row, 3, 2, 1);
        Check.due("lies", row.lies(1, 29, 0), 0);
        Check.due("lies", row.lies(1, 30, 0), 1);
        Check.due("lies", row.lies(1, 60, 0), 0);
        row.swap(0, 1);
        turn(row, 4, 60, 1, 0, 0);
        turn(row, 5, 60, 0, 0, 0);
    }

    private static void bolstersPart() {
        SpoonRow row = Check.told(THREE + "bed 9 1;bolster 1;");
        // 0 alone; 1 and 2 together, and 2 is off by 1
        night("one bolster", row, 5, 2, 19, 2);
        begun(row, 3, 2, 0);
        row.bolster(1, false);
        row.bolster(2, true);
        // 0 and 1 together, 2 alone
        night("another", row, 4, 0, 19, 0);
        begun(row, 3, 0, 1);
        row.bolster(3, true);
        night("behind the edge", row, 4, 0, 19, 0);
    }

    private static void theWord() {
        SpoonRow row = Check.told(THREE + "bed 9 1;");
        row.word(1, 25);
        // 20: 0 wakes 2; 25: the word wakes 0, and 2 is awake; 45: 0 wakes 2; 50: as at 25
        night("word", row, 4, 4, 19, 0);
        woken(row, 2, 0, 2);
        begun(row, 2, 2, 0);
        turn(row, 1, 25, 1, 1, 1);
        turn(row, 2, 45, 0, 1, 0);
        turn(row, 3, 50, 1, 1, 1);
        Check.due("side", row.lies(2, 24, 0), 1);
        Check.due("side", row.lies(2, 25, 0), 0);
        row.word(1, 0);
        night("nobody's", row, 3, 3, 19, 2);
        SpoonRow alone = Check.told(THREE + "bed 10 1;bolster 1;bolster 2;");
        alone.word(0, 15);
        // all turn by it however they lie, ahead of any that bears no more; 2 is off by 2, 1 by 1
        night("word in a free bed", alone, 4, 4, 14, 2);
        woken(alone, 0, 0, 4);
    }

    private static void wordAndTurnInOneMinute() {
        SpoonRow row = Check.told(THREE + "bed 9 1;");
        row.word(1, 20);
        night("word first", row, 3, 6, 19, 0);
        turn(row, 0, 20, 1, 2, 1);
        row.word(1, 1);
        night("every minute", row, 60, 12, 0, 0);
        SpoonRow first = Check.told("night 9;bed 1 0;awake 0;sleeper 1 1 9 1 5 0;sleeper 9 9 9 1 5 0;");
        first.word(1, 5);
        // 5: the word, by which nobody is left to turn; then both go, and the first wakes the other
        turn(first, 4, 5, 1, 1, 1);
        turn(first, 5, 6, 0, 1, 0);
        night("word, turns, outs", first, 9, 10, 0, 1);
        woken(first, 1, 9);
    }

    private static void awake() {
        SpoonRow row = Check.told(THREE.replace("awake 10", "awake 20") + "bed 9 1;");
        night("20 minutes ago is not awake", row, 3, 3, 19, 2);
        Check.due("bed", Check.tell(row, THREE.replace("awake 10", "awake 21") + "bed 9 1;"), 0);
        night("less than 21 is", row, 3, 2, 19, 2);
        Check.due("awake at 19", row.lies(2, 19, 1), 0);
        Check.due("awake at 20", row.lies(2, 20, 1), 1);
        Check.due("awake at 40", row.lies(2, 40, 1), 1);
        Check.due("awake at 41", row.lies(2, 41, 1), 0);
        Check.due("awake at 59", row.lies(2, 59, 1), 0);
        Check.due("awake at 60", row.lies(2, 60, 1), 1);
        Check.due("one who never was", row.lies(1, 60, 1), 0);
        Check.due("awake at 0", row.lies(2, 0, 1), 0);
        Check.due("bed", Check.tell(row, THREE.replace("awake 10", "awake 0") + "bed 9 1;"), 0);
        Check.due("never awake with 0", row.lies(2, 20, 1), 0);
        Check.due("bed", Check.tell(row, THREE.replace("awake 10;", "") + "bed 9 1;"), 0);
        Check.due("15 without", row.lies(2, 34, 1), 1);
        Check.due("15 without", row.lies(2, 35, 1), 0);
    }

    private static void sidesBearDifferently() {
        SpoonRow row = Check.told("night 600;sleeper 100 30 0 1 0 0;");
        // left up to 100, right up to 130, and so on
        turn(row, 0, 100, 0, 0, 0);
        turn(row, 1, 130, 0, 0, 0);
        turn(row, 2, 230, 0, 0, 0);
        night("left first", row, 8, 0, 99, 0);
        Check.due("first as it was", row.side(1), 0);
        turn(row, 0, 30, 0, 0, 0);
        turn(row, 1, 130, 0, 0, 0);
        night("right first", row, 9, 0, 99, 0);
        Check.due("lies", row.lies(0, 0, 0), 1);
        Check.due("lies", row.lies(0, 29, 0), 1);
        Check.due("lies", row.lies(0, 30, 0), 0);
    }

    private static void childrenAndDogs() {
        SpoonRow row = Check.told("bed 4 1;night 30;dog 1;child 10 10 9 1 0 0;sleeper 50 50 1 1 0 0;"
                + "snorer 50 50 1 1 0 0;");
        // the child in the place 1 begins; the sleeper is off by 1, the snorer by 2
        night("a child begins", row, 3, 2, 9, 2);
        woken(row, 0, 0, 2, 0);
        begun(row, 0, 3, 0, 0);
        Check.due("a dog's side", row.lies(0, 15, 0), 0);
        Check.due("a child's side", row.lies(1, 15, 0), 1);
        row.side(1);
        Check.due("a dog's side is FIRST", row.lies(0, 15, 0), 1);
        row.word(3, 5);
        // the word at 5, 10 .. by the snorer: the sleeper is off by 1, awake for 15 minutes
        night("a snorer's word", row, 6, 2, 4, 2);
        woken(row, 0, 0, 2, 0);
        Check.due("awake dog", row.lies(0, 5, 1), 0);
        Check.due("awake child", row.lies(1, 5, 1), 0);
        SpoonRow dogs = Check.told("bed 1 0;dog 1;dog 1;");
        night("dogs", dogs, 0, 0, 480, 0);
    }

    private static void goingOut() {
        String out = "bed 1 0;night 9;awake 0;sleeper 99 99 9 1 5 0;sleeper 99 99 9 1 5 0;"
                + "child 99 99 9 1 5 0;dog 1;snorer 99 99 9 1 0 0;";
        SpoonRow row = Check.told(out);
        night("out", row, 0, 4, 9, 4);
        woken(row, 0, 1, 0, 0, 3);
        row.swap(0, 4);
        woken(row, 2, 0, 0, 0, 0);
        row.undo();
        row.out(0, 9);
        woken(row, 0, 1, 0, 0, 3);
        row.out(0, 10);
        woken(row, 0, 0, 0, 0, 2);
        Check.due("bed", Check.tell(row, out.replace("awake 0", "awake 1")), 0);
        woken(row, 0, 1, 0, 0, 1);
        Check.due("awake in it", row.lies(4, 5, 1), 1);
        Check.due("not behind", row.lies(4, 6, 1), 0);
        row.bolster(1, true);
        row.bolster(4, true);
        woken(row, 0, 1, 0, 0, 1);
        SpoonRow both = Check.told("bed 1 0;night 5;awake 1;sleeper 5 5 9 1 5 0;sleeper 99 99 9 1 0 0;");
        night("turn, then out in one minute", both, 1, 1, 4, 1);
        turn(both, 0, 5, 0, 1, 0);
        Check.due("bed", Check.tell(both, "bed 1 0;night 5;awake 0;sleeper 5 5 9 1 5 0;"
                + "sleeper 99 99 9 1 0 0;"), 0);
        night("awake by neither", both, 1, 2, 4, 1);
        turn(both, 0, 5, 0, 1, 0);
    }

    private static void quiet() {
        SpoonRow row = Check.told("night 60;sleeper 50 10 0 1 0 0;");
        night("at first", row, 2, 0, 49, 0);
        Check.due("bed", Check.tell(row, "night 70;sleeper 10 59 0 1 0 0;"), 0);
        night("in the middle", row, 2, 0, 58, 0);
        Check.due("bed", Check.tell(row, "night 60;sleeper 10 59 0 1 0 0;"), 0);
        night("at last", row, 1, 0, 50, 0);
        Check.due("bed", Check.tell(row, "night 1;sleeper 1 1 0 1 0 0;"), 0);
        night("none", row, 1, 0, 0, 0);
    }

    private static void manyTurns() {
        SpoonRow row = Check.told("bed 99 0;night 600;" + "sleeper 1 1 9 1 0 0;".repeat(7));
        night("4200 turns", row, 4200, 0, 0, 0);
        turn(row, 1199, 172, 2, 0, 0);
        Check.throwing("not told", NoSuchElementException.class, () -> row.turn(1200, 0));
        begun(row, 600, 600, 600, 600, 600, 600, 600);
        // TURNS beyond the told ones count for a rule
        SpoonRow late = Check.told("bed 99 0;night 600;awake 0;wakes 4181 < turns;"
                + "sleeper 1 1 9 1 0 0;".repeat(7));
        // 7 by 597 minutes, and the word three times
        late.word(6, 200);
        night("the last", late, 4182, 0, 0, 0);
        Check.due("bed", Check.tell(late, "bed 99 0;night 600;awake 0;wakes turns = 4181;"
                + "sleeper 1 1 9 1 0 0;".repeat(7)), 0);
        late.word(6, 200);
        night("the last", late, 4182, 6, 0, 0);
    }

    private static boolean holds(String expr) {
        SpoonRow row = Check.told("bed 1 0;night 10;sleeper 10 99 0 1 0 0;sleeper 99 99 0 1 0 0;wakes "
                + expr + ";");
        Check.due("turns", row.night(0), 1);
        return row.woken(1, 0) == 1;
    }

    private static void rules() {
        String[] hold = {"1", "9999", "0-1", "not 0", "not not 7", "7/2=3", "(0-7)/2=0-3", "5/0=0",
            "(0-5)/0=0", "1+2*3=7", "(1+2)*3=9", "10-3-2=5", "8/2/2=2", "9-2+1=8", "6/4*2=2", "7*2/4=3",
            "1 or 0 and 0", "(2 and 3)=1", "(2 or 0)=1", "(not 5)=0", "not 1=2", "not 2<1", "(3<4)=1",
            "(4<4)=0", "(4<3)=0", "(3=3)+1=2", "0 or 0 or 3", "3 and 2 and 1", "1<2 and 2<3",
            "not 0 and not 0", "9999*9999*9999 = 0-1000*1000*1023-730721", "1\n+\n1=2", "1 or 1 and 0",
            "0 < (0-9999)*9999*22", "9999*9999*22 < 0"};
        int cube = 9999 * 9999 * 9999;
        hold[30] = "9999*9999*9999 = " + (cube < 0 ? "0-" : "") + parts(Math.abs((long) cube));
        for (String expr : hold) {
            Check.due("holds " + expr, holds(expr), true);
            Check.due("holds not: not (" + expr + ")", holds("not (" + expr + ")"), false);
        }
        String least = "(0-8192*512*512)";
        Check.due("the least by -1 wraps", holds(least + "/(0-1)=" + least), true);
        Check.due("the least", holds(least + "<0 and 0<" + least + "-1"), true);
    }

    /** A number of more than four digits as what it is made of. */
    private static String parts(long number) {
        String sign = number == Math.abs(number) ? "-" : "+";
        return (number / 1000000 + "*1000*1000") + sign + (number / 1000 % 1000 + "*1000") + sign
                + number % 1000;
    }

    private static void values() {
        String four = "bed 4 1;night 130;awake 0;sleeper 20 20 4 1 0 0;snorer 99 99 7 1 0 0;"
                + "sleeper 99 99 0 1 0 0;snorer 99 99 1 1 0 0;wakes ";
        // TURNS at 20, 40, 60, 80, 100, 120, all begun by 0
        wokenBy(four + "light = 7;", 0, 6, 0, 0);
        wokenBy(four + "light;", 0, 6, 0, 6);
        wokenBy(four + "off = 2;", 0, 0, 6, 0);
        wokenBy(four + "off < 3;", 0, 6, 6, 0);
        wokenBy(four + "turns = 2;", 0, 1, 1, 1);
        wokenBy(four + "hour = 1;", 0, 3, 3, 3);
        wokenBy(four + "hour = 2;", 0, 1, 1, 1);
        wokenBy(four + "snore = 2;", 0, 0, 6, 0);
        wokenBy(four + "snore = 0;", 0, 6, 0, 6);
        wokenBy(four + "edge = 0;", 0, 0, 0, 6);
        wokenBy(four + "edge = 2;", 0, 6, 0, 0);
        wokenBy(four + "woken < 2;", 0, 2, 2, 2);
        // at the TURNS 0, 2 and 4 ahead of which there were 0, 1 and 2 wakings
        wokenBy(four + "woken * 2 = turns;", 0, 3, 3, 3);
        SpoonRow row = Check.told(four + "off = 1 and snore = 1;");
        row.swap(0, 3);
        // 3, 1, 2, 0: beside 2 in the place 2 lie 1 and 0; off by 1 of 0 in the place 3
        woken(row, 0, 0, 6, 0);
        row.bolster(2, true);
        // a bolster parts who turns, not who lies beside: at 99 3 begins, and 1 lies beside him alone
        woken(row, 0, 1, 6, 0);
        SpoonRow groups = Check.told("bed 4 1;night 30;awake 0;bolster 2;sleeper 10 10 0 1 0 0;"
                + "sleeper 99 99 0 1 0 0;sleeper 15 15 0 1 0 0;sleeper 99 99 0 1 0 0;wakes turns = 2;");
        // 10 by 0, 15 by 2, 20 by 0, 30 by 0, 30 by 2
        woken(groups, 0, 1, 0, 0);
        Check.due("turns", groups.night(0), 5);
        turn(groups, 4, 30, 2, 0, 0);
    }

    private static void wokenBy(String text, int... due) {
        woken(Check.told(text), due);
    }

    private static void wrong() {
        SpoonRow row = Check.told(THREE + "bed 9 1;dog 1;");
        int[] wrong = {-1, Integer.MIN_VALUE, Integer.MAX_VALUE, 4};
        for (int one : wrong) {
            Check.throwing("night(" + one + ")", NoSuchElementException.class, () -> row.night(one));
            Check.throwing("woken(" + one + ", 0)", NoSuchElementException.class, () -> row.woken(one, 0));
            Check.throwing("woken(0, " + one + ")", NoSuchElementException.class, () -> row.woken(0, one));
            Check.throwing("lies(" + one + ", 0, 0)", NoSuchElementException.class,
                    () -> row.lies(one, 0, 0));
            Check.throwing("lies(0, 99, " + one + ")", NoSuchElementException.class,
                    () -> row.lies(0, 99, one));
            Check.throwing("lies(" + one + ", 99, 0)", NoSuchElementException.class,
                    () -> row.lies(one, 99, 0));
            Check.throwing("turn(" + one + ", 0)", NoSuchElementException.class, () -> row.turn(one, 0));
            Check.throwing("turn(0, " + one + ")", NoSuchElementException.class, () -> row.turn(0, one));
        }
        Check.throwing("woken(0, 2)", NoSuchElementException.class, () -> row.woken(0, 2));
        Check.throwing("lies(0, 0, 2)", NoSuchElementException.class, () -> row.lies(0, 0, 2));
        Check.throwing("turn(3, 0)", NoSuchElementException.class, () -> row.turn(3, 0));
        for (int minute : new int[] {-1, 61, Integer.MIN_VALUE, Integer.MAX_VALUE}) {
            Check.throwing("lies(0, " + minute + ", 1)", IllegalArgumentException.class,
                    () -> row.lies(0, minute, 1));
        }
        SpoonRow nobody = new SpoonRow();
        night("nobody", nobody, 0, 0, 480, -1);
        Check.throwing("nobody lies", NoSuchElementException.class, () -> nobody.lies(0, 0, 0));
        Check.throwing("nobody is woken", NoSuchElementException.class, () -> nobody.woken(0, 0));
        Check.throwing("nobody turns", NoSuchElementException.class, () -> nobody.turn(0, 0));
    }
}
