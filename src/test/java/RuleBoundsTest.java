/** WAKES and its VALUES, the bounds that the document names: each sentence by itself. */
final class RuleBoundsTest {
    private static final String LEAST = "(0-8192*512*512)";
    private static final String MOST = "((8191*512+511)*512+511)";

    private RuleBoundsTest() {
    }

    static void run() {
        withoutARule();
        whatHolds();
        largestNumber();
        wraps();
        cutDown();
        byNone();
        testsAreOneOrNone();
        fromTheLeft();
        binding();
        light();
        off();
        turns();
        turnsOfAll();
        hour();
        snore();
        edge();
        woken();
        wokenByWhoGoes();
        deepAndLong();
    }

    private static boolean isWokenBy(String expr) {
        SpoonRow row = Check.told("bed 1 0;night 10;sleeper 10 99 0 1 0 0;sleeper 99 99 0 1 0 0;wakes "
                + expr + ";");
        Check.due("one TURN", row.night(0), 1);
        return row.woken(1, 0) == 1;
    }

    private static void holds(String expr) {
        Check.due("holds: " + expr, isWokenBy(expr), true);
        Check.due("holds not: not (" + expr + ")", isWokenBy("not (" + expr + ")"), false);
    }

    private static void holdsNot(String expr) {
        Check.due("holds not: " + expr, isWokenBy(expr), false);
        Check.due("holds: not (" + expr + ")", isWokenBy("not (" + expr + ")"), true);
    }

    private static void woken(String text, int... due) {
        SpoonRow row = Check.told(text);
        for (int s = 0; s < due.length; s++) {
            Check.due(text + " woken(" + s + ", 0)", row.woken(s, 0), due[s]);
        }
    }

    // "(without a rule: 'off' is no more than 'light')": with one LIGHT counts no more
    private static void withoutARule() {
        String two = "bed 1 0;night 10;sleeper 10 99 9 1 0 0;sleeper 99 99 1 1 0 0;sleeper 99 99 1 1 0 0;";
        woken(two, 0, 1, 0);
        woken(two + "wakes off<light+1;", 0, 1, 0);
        woken(two + "wakes 1;", 0, 1, 1);
        woken(two + "wakes 0;", 0, 0, 0);
    }

    // "what isn't 0 holds"
    private static void whatHolds() {
        holdsNot("0");
        holdsNot("0000");
        holds("1");
        holds("2");
        holds("9999");
        holds("0-1");
        holds(LEAST);
        holds(MOST);
        holdsNot("1-1");
    }

    // "NUMBERS (1 to 4 digits)"
    private static void largestNumber() {
        holds("9999=10*1000-1");
        holds("0009=9");
        holds("0010=10");
        holds("9999*9999=9999*1000*10-9999");
    }

    // "ints that wrap"
    private static void wraps() {
        holds(MOST + "+1=" + LEAST);
        holds(LEAST + "-1=" + MOST);
        holds(MOST + "+1<0");
        holds("0<" + LEAST + "-1");
        holds(MOST + "*2=0-2");
        holds(LEAST + "*2=0");
        holdsNot(LEAST + "*2");
        holds(MOST + "*" + MOST + "=1");
        holds("0-" + LEAST + "=" + LEAST);
        holds(LEAST + "*(0-1)=" + LEAST);
        holds(LEAST + "/(0-1)=" + LEAST);
        holds(LEAST + "<" + MOST);
        holdsNot(MOST + "<" + LEAST);
        holds("9999*9999*22<0");
        holdsNot("8192*512*1024");
    }

    // "/ cut down to 0"
    private static void cutDown() {
        holds("7/2=3");
        holds("8/2=4");
        holds("(0-7)/2=0-3");
        holds("7/(0-2)=0-3");
        holds("(0-7)/(0-2)=3");
        holdsNot("1/2");
        holdsNot("(0-1)/2");
        holds("1/1");
        holds("9999/9998=1");
        holdsNot("9998/9999");
        holdsNot(MOST + "/" + LEAST);
        holds(LEAST + "/" + MOST + "=0-1");
    }

    // "by 0 gives 0"
    private static void byNone() {
        holdsNot("5/0");
        holdsNot("0/0");
        holdsNot(LEAST + "/0");
        holdsNot("1/(1-1)");
        holds("5/0=0");
        holds("1/0+1");
        holdsNot("5/0*7");
        holds("7/woken=0");
    }

    // "tests, not, and, or are 1 or 0"
    private static void testsAreOneOrNone() {
        holds("(1<2)=1");
        holds("(2<2)=0");
        holds("(3<2)=0");
        holds("(2=2)=1");
        holds("(2=3)=0");
        holds("(not 5)=0");
        holds("(not 0)=1");
        holds("(not not 5)=1");
        holds("(5 and 7)=1");
        holds("(5 and 0)=0");
        holds("(0 and 5)=0");
        holds("(0 and 0)=0");
        holds("(5 or 7)=1");
        holds("(5 or 0)=1");
        holds("(0 or 5)=1");
        holds("(0 or 0)=0");
        holds("(4 and 2)=1");
        holds("(0-1 and 0-2)=1");
    }

    // "From the left"
    private static void fromTheLeft() {
        holds("9-3-2=4");
        holds("9-3+2=8");
        holds("16/4/2=2");
        holds("7/2*2=6");
        holds("2*7/4=3");
        holds("6/4*4/3=1");
    }

    // the EXPR's rows: 'or' of 'and's of 'not's of tests of sums of products
    private static void binding() {
        holds("1+2*3=7");
        holds("7-6/2=4");
        holds("1 or 1 and 0");
        holdsNot("(1 or 1) and 0");
        holds("not 1=2");
        holds("not 2<1");
        holds("not 0 and 1");
        holdsNot("not (0 or 1)");
        holds("not 0 or 0 and 0");
        holds("1<2 and 2<3 and not 3<2");
        holds("1+1<3*1");
    }

    // "'light'": LIGHT 0 to 9 of who may be woken
    private static void light() {
        for (int light = 0; light <= 9; light++) {
            String two = "bed 1 0;night 10;sleeper 10 99 " + (9 - light) + " 1 0 0;sleeper 99 99 " + light + " 1 0 0;";
            woken(two + "wakes light=" + light + ";", 0, 1);
            woken(two + "wakes not light=" + light + ";", 0, 0);
        }
    }

    // "'off' (how many PLACES from who began it)": 1 to 6, to either side
    private static void off() {
        for (int by = 0; by < 7; by++) {
            for (int off = 0; off <= 7; off++) {
                SpoonRow row = Check.told("bed 1 0;night 10;" + "sleeper 99 99 0 1 0 0;".repeat(by)
                        + "sleeper 10 99 0 1 0 0;" + "sleeper 99 99 0 1 0 0;".repeat(6 - by)
                        + "wakes off=" + off + ";");
                for (int s = 0; s < 7; s++) {
                    boolean isOff = s != by && Math.abs(s - by) == off;
                    Check.due("by " + by + ", off " + off + ": " + s, row.woken(s, 0), isOff ? 1 : 0);
                }
            }
        }
    }

    // "'turns' (how many TURNS there were in this NIGHT ahead of it, of all)": none ahead of the first
    private static void turns() {
        String two = "bed 1 0;awake 0;night 600;sleeper 1 1 0 1 0 0;sleeper 99 99 0 1 0 0;wakes ";
        woken(two + "turns=0;", 0, 1);
        woken(two + "turns=599;", 0, 1);
        woken(two + "turns=600;", 0, 0);
        woken(two + "turns<0;", 0, 0);
        woken(two + "not turns;", 0, 1);
        woken(two + "turns;", 0, 599);
    }

    // "of all": of others who lie together, of THE WORD, beyond the 1200 that are told
    private static void turnsOfAll() {
        String free = "bed 9 0;awake 0;night 600;" + "sleeper 1 1 0 1 0 0;".repeat(4)
                + "sleeper 99 99 0 1 0 0;wakes turns=";
        // ahead of the second WORD: four alone in each of 398 minutes, the first WORD, the fifth one's four
        int ahead = 4 * 398 + 1 + 4;
        for (int turns = ahead - 1; turns <= ahead + 1; turns++) {
            SpoonRow row = Check.told(free + turns + ";");
            row.word(4, 200);
            Check.due("TURNS", row.night(0), 4 * 597 + 3 + 6);
            Check.due("woken by turns=" + turns, row.night(1), turns == ahead ? 4 : 0);
        }
    }

    // "'hour' (the minute by 60, cut down)"
    private static void hour() {
        String two = "bed 1 0;awake 0;night 600;sleeper 1 1 0 1 0 0;sleeper 99 99 0 1 0 0;wakes ";
        woken(two + "hour=0;", 0, 59);
        for (int hour = 1; hour <= 9; hour++) {
            woken(two + "hour=" + hour + ";", 0, 60);
        }
        woken(two + "hour=10;", 0, 1);
        woken(two + "hour=11;", 0, 0);
        String at = "bed 1 0;sleeper 20 39 0 1 0 0;sleeper 99 99 0 1 0 0;awake 0;wakes hour=1;night ";
        // TURNS at 20, 59, 79
        woken(at + "78;", 0, 0);
        woken(at + "79;", 0, 1);
        String sixty = "bed 1 0;sleeper 20 40 0 1 0 0;sleeper 99 99 0 1 0 0;awake 0;wakes hour=1;night ";
        woken(sixty + "59;", 0, 0);
        woken(sixty + "60;", 0, 1);
    }

    // "'snore' (how many snorers lie beside)": none, one, two; beside the wall and the edge
    private static void snore() {
        String row = "bed 1 0;night 10;dog 1;snorer 10 99 0 1 0 0;sleeper 99 99 0 1 0 0;snorer 99 99 0 1 0 0;"
                + "sleeper 99 99 0 1 0 0;sleeper 99 99 0 1 0 0;wakes snore=";
        woken(row + "0;", 0, 0, 0, 1, 0, 1);
        woken(row + "1;", 0, 0, 0, 0, 1, 0);
        woken(row + "2;", 0, 0, 1, 0, 0, 0);
        woken(row + "3;", 0, 0, 0, 0, 0, 0);
        String ends = "bed 1 0;night 10;sleeper 99 99 0 1 0 0;snorer 10 99 0 1 0 0;snorer 99 99 0 1 0 0;"
                + "sleeper 99 99 0 1 0 0;wakes snore=";
        woken(ends + "1;", 1, 0, 1, 1);
        woken(ends + "0;", 0, 0, 0, 0);
        woken(ends + "2;", 0, 0, 0, 0);
        // beyond the wall and the edge nobody snores, though the first one does
        for (int many = 2; many <= 7; many++) {
            SpoonRow alone = Check.told("bed 1 0;night 10;snorer 99 99 0 1 0 0;" + "dog 1;".repeat(many - 2)
                    + "sleeper 10 99 0 1 0 0;wakes snore=0;");
            Check.due("at the wall of " + many, alone.woken(0, 0), 1);
            alone.swap(0, many - 1);
            Check.due("at the edge of " + many, alone.woken(0, 0), 1);
            SpoonRow other = Check.told("bed 1 0;night 10;snorer 10 99 0 1 0 0;" + "dog 1;".repeat(many - 2)
                    + "sleeper 99 99 0 1 0 0;wakes snore=" + (many == 2 ? 1 : 0) + ";");
            Check.due("another at the edge of " + many, other.woken(many - 1, 0), 1);
            other.swap(0, many - 1);
            Check.due("another at the wall of " + many, other.woken(many - 1, 0), 1);
        }
    }

    // "'edge' (how many PLACES from the last one)": none there
    private static void edge() {
        String seven = "bed 1 0;night 10;sleeper 99 99 0 1 0 0;sleeper 99 99 0 1 0 0;sleeper 10 99 0 1 0 0;"
                + "sleeper 99 99 0 1 0 0;sleeper 99 99 0 1 0 0;dog 1;sleeper 99 99 0 1 0 0;wakes edge=";
        int[] who = {6, -1, 4, 3, -1, 1, 0, -1};
        for (int edge = 0; edge <= 7; edge++) {
            SpoonRow row = Check.told(seven + edge + ";");
            Check.due("woken by edge " + edge, row.night(1), who[edge] < 0 ? 0 : 1);
            if (who[edge] >= 0) {
                Check.due("edge " + edge, row.woken(who[edge], 0), 1);
            }
        }
        woken("bed 1 0;night 10;sleeper 10 99 0 1 0 0;sleeper 99 99 0 1 0 0;wakes not edge;", 0, 1);
    }

    // "'woken' (how often one was in this NIGHT)": none at first
    private static void woken() {
        String two = "bed 1 0;awake 0;night 600;sleeper 1 1 0 1 0 0;sleeper 99 99 0 1 0 0;wakes ";
        woken(two + "woken=0;", 0, 1);
        woken(two + "woken;", 0, 0);
        woken(two + "woken<1;", 0, 1);
        woken(two + "woken<599;", 0, 599);
        woken(two + "woken=turns;", 0, 600);
        SpoonRow again = Check.told(two + "not woken;");
        Check.due("each NIGHT anew", again.fair(30, 1), 30);
    }

    // 'woken' counts who goes, too; 'turns' doesn't
    private static void wokenByWhoGoes() {
        String two = "bed 1 0;awake 0;night 10;sleeper 5 5 0 1 1 0;sleeper 99 99 0 1 0 0;wakes ";
        woken(two + "woken=1;", 0, 2);
        woken(two + "woken=0;", 0, 1);
        woken(two + "turns=0;", 0, 2);
    }

    // the deepest EXPR, the most 'not's, the longest row of parts
    private static void deepAndLong() {
        holds("not not not not not not (1)");
        String more = "0 or 1 and 2<3+4*";
        Check.due("deep", isWokenBy((more + "(").repeat(5) + more + "5" + ")".repeat(5)), true);
        String less = "0 or 1 and 2<1*";
        Check.due("deep", isWokenBy((less + "(").repeat(5) + less + "2" + ")".repeat(5)), false);
        holds("0" + "+1".repeat(200) + "=200");
        holds("((((0" + "-1".repeat(100) + "))))=0-100");
        holdsNot("not not not not not not 0 or not not not not not 1");
    }
}
