import java.util.NoSuchElementException;

/** Promises 1 to 6: what a text tells, and its faults. */
final class TextTest {
    private static final String MAN = "sleeper 10 20 3 4 50 6;";

    private TextTest() {
    }

    static void run() {
        newObject();
        feed();
        bedTellsAll();
        bedForgets();
        bedRefuses();
        tokensThatCannotStand();
        tokensThatAreTooMuch();
        exprFaults();
        unknownAgainAndSecond();
        leastFaultFirst();
        counts();
        sleepers();
    }

    private static void newObject() {
        SpoonRow row = new SpoonRow();
        int[] due = {0, 20, 3, 480, 15, 0, 0, 0, -1, 0, 1, 0, 0, 0, 0, 0, 0};
        for (int what = 0; what < due.length; what++) {
            Check.due("new: count(" + what + ")", row.count(what), due[what]);
        }
        Check.due("new: fault()", row.fault(), SpoonRow.NONE);
        Check.due("NONE", SpoonRow.NONE, -1);
    }

    private static void feed() {
        SpoonRow row = new SpoonRow();
        // "night 7;" and "awake 9;" and blanks, the highest byte of each number first
        Check.due("feed", row.feed(0x6e696768, 0x7420373b, 0x6177616b, 0x6520393b, 0x20202020), 20);
        Check.due("bed(20)", row.bed(20), 0);
        Check.due("minutes", row.count(3), 7);
        Check.due("awake", row.count(4), 9);
        for (int i = 1; i <= 30; i++) {
            Check.due("feed " + i, row.feed(-1, 0, 1, 2, 3), 20 * i);
        }
        Check.due("feed 31", row.feed(1, 2, 3, 4, 5), SpoonRow.NONE);
        Check.due("bytes", row.count(13), 600);
        Check.due("a byte 255 is no token", row.bed(600), 1);
        Check.due("at 0", row.fault(), 0);
        Check.due("bytes then", row.count(13), 0);
        Check.due("feed then", row.feed(0, 0, 0, 0, 0), 20);
        StringBuilder longest = new StringBuilder("wakes 0");
        while (longest.length() < 597) {
            longest.append("+1");
        }
        Check.told(longest.append(";\n").toString());
    }

    private static void bedTellsAll() {
        SpoonRow row = Check.told("sleeper 10 20 3 4 50 6;\n child 1 240 0 1 0 0;snorer 240 1 9 9 600 10;"
                + "dog 5;bed 99 9;night 600;awake 60;bolster 6;bolster 1;never 0 1;never 3 1;");
        int[] due = {4, 99, 9, 600, 60, 66, 2, 0, -1, 0, 1};
        for (int what = 0; what < due.length; what++) {
            Check.due("told: count(" + what + ")", row.count(what), due[what]);
        }
        int[][] people = {{0, 10, 20, 3, 4, 50, 6, 0, 2}, {1, 1, 240, 0, 1, 0, 0, 1, 9},
            {2, 240, 1, 9, 9, 600, 10, 2, 0}, {3, 0, 0, 0, 5, 0, 0, 3, 2}};
        for (int s = 0; s < people.length; s++) {
            for (int what = 0; what < 9; what++) {
                Check.due("told: sleeper(" + s + ", " + what + ")", row.sleeper(s, what), people[s][what]);
            }
        }
        Check.due("the least", Check.tell(row, "bed 1 0;night 1;awake 0;"), 0);
        Check.due("wide", row.count(1), 1);
        Check.due("room", row.count(2), 0);
        Check.due("free", row.count(10), 1);
        Check.due("nothing", Check.tell(row, ""), 0);
        Check.due("wide anew", row.count(1), 20);
        Check.due("blanks alone", Check.tell(row, " \n "), 0);
        Check.due("leading 0s, no blanks", Check.tell(row, "night0007;bed020 03;"), 0);
        Check.due("minutes", row.count(3), 7);
        Check.due("seven sleepers", Check.tell(row, "dog 1;".repeat(7) + "never 6 5;"), 0);
        Check.due("seven", row.count(0), 7);
    }

    private static void bedForgets() {
        SpoonRow row = Check.told(MAN + MAN);
        row.side(1);
        row.side(2);
        row.word(1, 5);
        row.bolster(2, true);
        row.see(0, 1, 1);
        row.see(0, 1, 2);
        row.order();
        row.image();
        Check.feed(row, "no text;" + MAN.repeat(4));
        Check.due("a fault", row.bed(8), 1);
        int[] stays = {2, 20, 3, 480, 15, 4, 0, 1, 1, 5, 1, 3, 1, 0, 1, 1, 1};
        for (int what = 0; what < stays.length; what++) {
            Check.due("behind a fault: count(" + what + ")", row.count(what), stays[what]);
        }
        // the other way round he who goes out at 50 wakes nobody who is not awake by the word of then
        Check.due("kept stays", row.kept(1), 0);
        Check.due("the image stays", row.restore(), true);
        Check.due("and holds STATUS", row.count(14), 0);
        row.bed(0 * row.count(0));
        int[] gone = {0, 20, 3, 480, 15, 0, 0, 0, -1, 0, 1, 0, 0, 0, 0, 1, 1};
        for (int what = 0; what < gone.length; what++) {
            Check.due("all anew: count(" + what + ")", row.count(what), gone[what]);
        }
        Check.throwing("kept(0)", NoSuchElementException.class, () -> row.kept(0));
        Check.due("no image", row.restore(), false);
        Check.due("nothing to undo", row.undo(), -1);
        Check.due("nothing to forget", row.forget(), -1);
        Check.due("no rule any more", wokenBy(row, "wakes 0;"), 0);
        Check.due("without a rule", wokenBy(row, ""), 4);
    }

    private static int wokenBy(SpoonRow row, String rule) {
        Check.tell(row, rule + "night 40;bed 2 0;awake 0;sleeper 10 10 1 1 0 0;sleeper 90 90 1 2 0 0;");
        return row.night(1);
    }

    private static void bedRefuses() {
        SpoonRow row = Check.told(MAN);
        Check.tell(row, "x");
        Check.feed(row, "night 9;bed 3 3;    ");
        Check.throwing("bed(21)", IllegalArgumentException.class, () -> row.bed(21));
        Check.throwing("bed(-1)", IllegalArgumentException.class, () -> row.bed(-1));
        Check.throwing("bed(least)", IllegalArgumentException.class, () -> row.bed(Integer.MIN_VALUE));
        Check.throwing("bed(most)", IllegalArgumentException.class, () -> row.bed(Integer.MAX_VALUE));
        Check.due("bytes stay", row.count(13), 20);
        Check.due("STATUS stays", row.count(14), 1);
        Check.due("fault stays", row.fault(), 0);
        Check.due("of the first bytes alone", row.bed(8), 0);
        Check.due("minutes", row.count(3), 9);
        Check.due("wide", row.count(1), 20);
        Check.due("empty", row.count(13), 0);
        Check.due("no fault", row.fault(), -1);
    }

    private static void tokensThatCannotStand() {
        Check.fault("x", 1, 0);
        Check.fault("Sleeper", 1, 0);
        Check.fault("  \n 5", 1, 4);
        Check.fault(";", 1, 0);
        Check.fault("night 5;;", 1, 8);
        Check.fault("night", 1, 5);
        Check.fault("night  \n", 1, 8);
        Check.fault("night 5", 1, 7);
        Check.fault("night 5 6;", 1, 8);
        Check.fault("night\t5;", 1, 5);
        Check.fault("night 5.", 1, 7);
        Check.fault("night -5;", 1, 6);
        Check.fault("night five;", 1, 6);
        Check.fault("night 5 12345;", 1, 8);
        Check.fault("sleepers 1 1 1 1 1 1;", 1, 0);
        Check.fault("sleeper 1 1 1 1 1;", 1, 17);
        Check.fault("sleeper 1 1 1 1 1 1 1;", 1, 20);
        Check.fault("dog 1 1;", 1, 6);
        Check.fault("bed 5;", 1, 5);
        Check.fault("bolster;", 1, 7);
        Check.fault("dog 1;never 0;", 1, 13);
        Check.fault("dog 1;never;", 1, 11);
        Check.fault("night 5;\u00e9", 1, 8);
    }

    private static void tokensThatAreTooMuch() {
        Check.fault("sleeper 0 1 0 1 0 0;", 2, 8);
        Check.fault("sleeper 241 1 0 1 0 0;", 2, 8);
        Check.fault("sleeper 1 0 0 1 0 0;", 2, 10);
        Check.fault("sleeper 1 241 0 1 0 0;", 2, 10);
        Check.fault("snorer 1 1 10 1 0 0;", 2, 11);
        Check.fault("child 1 1 0 0 0 0;", 2, 12);
        Check.fault("child 1 1 0 10 0 0;", 2, 12);
        Check.fault("child 1 1 0 1 601 0;", 2, 14);
        Check.fault("child 1 1 0 1 0 11;", 2, 16);
        Check.fault("dog 0;", 2, 4);
        Check.fault("dog 10;", 2, 4);
        Check.fault("bed 0 0;", 2, 4);
        Check.fault("bed 100 0;", 2, 4);
        Check.fault("bed 1 10;", 2, 6);
        Check.fault("night 0;", 2, 6);
        Check.fault("night 601;", 2, 6);
        Check.fault("awake 61;", 2, 6);
        Check.fault("bolster 0;", 2, 8);
        Check.fault("bolster 7;", 2, 8);
        Check.fault("night 00001;", 2, 6);
        Check.fault("night 4294967297;", 2, 6);
        Check.fault("night 99999999999999999999;", 2, 6);
        Check.fault("dog 1;".repeat(7) + "sleeper 0;", 2, 42);
        Check.fault("dog 1;".repeat(7) + "dog", 2, 42);
        Check.fault("dog 1;".repeat(7) + "child", 2, 42);
        Check.fault("dog 1;".repeat(7) + "snorer", 2, 42);
        String six = "dog 1;dog 1;dog 1;dog 1;never 0 1;never 0 2;never 0 3;never 1 2;never 1 3;never 2 3;";
        Check.told(six);
        Check.fault(six + "never x", 2, six.length());
    }

    private static void exprFaults() {
        Check.fault("wakes", 1, 5);
        Check.fault("wakes;", 1, 5);
        Check.fault("wakes 1", 1, 7);
        Check.fault("wakes 1 1;", 1, 8);
        Check.fault("wakes 1 light;", 1, 8);
        Check.fault("wakes 1 foo;", 1, 8);
        Check.fault("wakes 1 not 1;", 1, 8);
        Check.fault("wakes 1<2<3;", 1, 9);
        Check.fault("wakes 1=2<3;", 1, 9);
        Check.fault("wakes (1=2)<3;wakes", 5, 14);
        Check.fault("wakes -1;", 1, 6);
        Check.fault("wakes 1+;", 1, 8);
        Check.fault("wakes ();", 1, 7);
        Check.fault("wakes (1;", 1, 8);
        Check.fault("wakes 1);", 1, 7);
        Check.fault("wakes (1", 1, 8);
        Check.fault("wakes 12345;", 2, 6);
        Check.fault("wakes 1 12345;", 1, 8);
        Check.fault("wakes foo;", 3, 6);
        Check.fault("wakes sleeper;", 3, 6);
        Check.fault("wakes az;", 3, 6);
        Check.fault("wakes z;", 3, 6);
        Check.fault("wakes `;", 1, 6);
        Check.fault("wakes {;", 1, 6);
        Check.fault("wakes :;", 1, 6);
        Check.fault("wakes or 1;", 3, 6);
        Check.fault("wakes 1 and and 1;", 3, 12);
        Check.fault("wakes 1 + not 1;", 3, 10);
        Check.fault("wakes 1 < not 1;", 3, 10);
        Check.fault("wakes 1 * nota;", 3, 10);
        Check.fault("wakes (foo);", 3, 7);
        Check.told("wakes (((((1)))));");
        Check.fault("wakes ((((((1))))));", 2, 12);
        Check.fault("wakes ((((((light))))));", 2, 12);
        Check.fault("wakes ((((((foo))))));", 2, 12);
        Check.fault("wakes ((((((not 1))))));", 2, 12);
        Check.fault("wakes (((((((1)))))));", 2, 12);
        Check.fault("wakes (((((()))))));", 1, 12);
        Check.fault("wakes ((((((;", 1, 12);
        Check.fault("wakes ((((((", 1, 12);
        Check.fault("wakes 1+(((((2-((1))", 2, 16);
        Check.told("wakes (((((1)))))+(((((1)))));");
        Check.told("wakes not not not not not not 1;");
        Check.fault("wakes not not not not not not not 1;", 2, 30);
        Check.fault("wakes not not not not not not not not", 2, 30);
        Check.told("wakes not not not not not not (not not not not not not 1) and not 1 or not 1;");
        Check.fault("wakes not;", 1, 9);
        Check.told("wakes light+off-turns*hour/snore<edge and woken=0 or not 9999;");
    }

    private static void unknownAgainAndSecond() {
        Check.fault("never 0 1;", 3, 6);
        Check.fault("dog 1;never 0 1;dog 1;", 3, 14);
        Check.fault("dog 1;never 1 0;", 3, 12);
        Check.fault("dog 1;dog 1;never 0 6;", 3, 20);
        Check.fault("dog 1;dog 1;never 0 2;", 3, 20);
        Check.fault("dog 1;dog 1;never 2 0;", 3, 18);
        Check.fault("dog 1;dog 1;never 0 7;", 3, 20);
        Check.fault("dog 1;dog 1;never 7 0;", 3, 18);
        Check.fault("dog 1;dog 1;never 0 9 50", 3, 20);
        Check.fault("dog 1;dog 1;never 9999 0;", 3, 18);
        Check.fault("dog 1;dog 1;never 0 9999;", 3, 20);
        Check.fault("dog 1;dog 1;never 0 0009;", 3, 20);
        Check.fault("dog 1;dog 1;never 7 7;", 3, 18);
        Check.fault("dog 1;".repeat(7) + "never 6 7;", 3, 50);
        Check.fault("dog 1;".repeat(7) + "never 7 6;", 3, 48);
        Check.fault("dog 1;never 12345 0;", 2, 12);
        Check.fault("dog 1;never 0 12345;", 2, 14);
        Check.fault("dog 1;dog 1;never 00000 1;", 2, 18);
        Check.fault("dog 1;dog 1;never 0 00001;", 2, 20);
        Check.told("dog 1;dog 1;never 0000 0001;");
        Check.fault("dog 1;never x 0;", 1, 12);
        Check.fault("dog 1;dog 1;never 0 x;", 1, 20);
        Check.fault("dog 1;dog 1;never 0 0;", 4, 20);
        Check.fault("dog 1;dog 1;never 0 1;never 0 1;", 4, 30);
        Check.fault("dog 1;dog 1;never 0 1;never 1 0;", 4, 30);
        Check.fault("bed 1 1;bed 0 0;", 5, 8);
        Check.fault("night 1;night", 5, 8);
        Check.fault("awake 1;awake", 5, 8);
        Check.fault("wakes 1;wakes", 5, 8);
        Check.fault("bolster 1;bolster 1;", 5, 18);
        Check.fault("bolster 6;bolster 1;bolster 6", 5, 28);
        Check.told("bolster 1;bolster 2;bolster 3;bolster 4;bolster 5;bolster 6;");
    }

    private static void leastFaultFirst() {
        Check.fault("night 0;night 0;", 2, 6);
        Check.fault("bolster 1;bolster 7;", 2, 18);
        Check.fault("never 0 0;", 3, 6);
    }

    private static void counts() {
        SpoonRow row = Check.told("bed 8 3;sleeper 1 1 1 5 1 1;");
        Check.due("free: as much", row.count(10), 1);
        Check.due("bed", Check.tell(row, "bed 7 3;sleeper 1 1 1 5 1 1;"), 0);
        Check.due("not free: one less", row.count(10), 0);
        Check.due("bed", Check.tell(row, "bed 7 3;dog 5;"), 0);
        Check.due("a dog is wide, too", row.count(10), 0);
        for (int what : new int[] {-1, 17, Integer.MIN_VALUE, Integer.MAX_VALUE}) {
            Check.throwing("count(" + what + ")", NoSuchElementException.class, () -> row.count(what));
        }
    }

    private static void sleepers() {
        SpoonRow row = Check.told(MAN + "dog 2;" + MAN);
        row.swap(0, 2);
        Check.due("place of 0", row.sleeper(0, 7), 2);
        Check.due("place of 1", row.sleeper(1, 7), 1);
        Check.due("place of 2", row.sleeper(2, 7), 0);
        row.out(2, 77);
        Check.due("out of 2", row.sleeper(2, 5), 77);
        Check.due("out of 0", row.sleeper(0, 5), 50);
        for (int s : new int[] {-1, 3, 7, Integer.MIN_VALUE, Integer.MAX_VALUE}) {
            Check.throwing("sleeper(" + s + ", 0)", NoSuchElementException.class, () -> row.sleeper(s, 0));
        }
        for (int what : new int[] {-1, 9, Integer.MIN_VALUE, Integer.MAX_VALUE}) {
            Check.throwing("sleeper(0, " + what + ")", NoSuchElementException.class,
                    () -> row.sleeper(0, what));
        }
    }
}
