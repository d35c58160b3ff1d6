import java.math.BigInteger;
import java.util.NoSuchElementException;

/** Promises 17 to 25 and 28 to 30, the bounds that the document names: each sentence by itself. */
final class QuestionBoundsTest {
    private static final String LIGHT = "sleeper 10 10 9 1 0 0;";
    private static final int[] NO_WHAT = {-1, 2, 3, Integer.MIN_VALUE, Integer.MAX_VALUE};
    private static final int[] NO_SLEEPER = {-2, 7, 8, Integer.MIN_VALUE, Integer.MAX_VALUE};

    private QuestionBoundsTest() {
    }

    static void run() {
        ordersFromNoneToMost();
        ordersAsItIs();
        ordersWithNevers();
        lastOfAllOrders();
        bestOfLikeOrders();
        bestOrderOfFew();
        noBestOrder();
        keptPlaces();
        keptOfTheLatest();
        spent();
        everyFromLeastToLargest();
        everyOfLikeOnes();
        everyRefused();
        setsOfBolsters();
        setsOfLikeOnes();
        wereItFree();
        fractions();
        fractionsAtTheEnds();
        edgeFromNoneToMost();
        edgeWithoutNever();
        fairFromNoneToMost();
        howFarApart();
        fairRefused();
        allFits();
        firstThatFits();
        fitsAtTheEnds();
        fitsByNobody();
        fitsFullOfSeen();
        withoutTheOnlyOne();
        withoutTheWord();
        withoutInTime();
        withoutMore();
        yearFromNoneToMost();
        yearByTenths();
        yearByMinutes();
        yearBySeedsThatWrap();
        yearDrawsForNoDog();
        yearRefused();
        whats();
    }

    private static void kept(SpoonRow row, int... due) {
        for (int place = 0; place < due.length; place++) {
            Check.due("kept(" + place + ")", row.kept(place), due[place]);
        }
        Check.throwing("one ahead", NoSuchElementException.class, () -> row.kept(-1));
        Check.throwing("one behind", NoSuchElementException.class, () -> row.kept(due.length));
    }

    // "ORDERS of SLEEPERS by PLACES ..: how many"
    private static void ordersFromNoneToMost() {
        int[] due = {1, 1, 2, 6, 24, 120, 720, -2};
        for (int many = 0; many <= 7; many++) {
            Check.due("orders of " + many, Check.told("dog 1;".repeat(many)).orders(), due[many]);
        }
    }

    // "all else as it is": not who lies where; whether it is FREE
    private static void ordersAsItIs() {
        SpoonRow row = Check.told("bed 1 1;night 10;" + LIGHT.repeat(6) + "never 0 1;");
        Check.due("orders", row.orders(), 480);
        row.swap(0, 5);
        row.swap(1, 4);
        Check.due("orders, wherever they lie", row.orders(), 480);
        Check.due("not FREE", row.order(), 5);
        SpoonRow free = Check.told("bed 7 1;night 10;" + LIGHT.repeat(6));
        Check.due("FREE", free.order(), 0);
        Check.due("FREE by all chances", free.every(0, 1), 0);
        Check.due("no BOLSTER in it", free.bolsters(0), 0);
        Check.due("fair in it", free.fair(30, 0), 0);
        Check.due("a year in it", free.year(1, 40, 2), 40);
        Check.due("free as it is", free.free(5), 0);
        Check.due("FREE", free.order(), 0);
        Check.due("others together as they were", row.free(5), 0);
        Check.due("not FREE", row.order(), 5);
        Check.due("fair in it", row.fair(1, 5), 0);
        Check.due("fair in it", row.fair(1, 4), 1);
    }

    // "in which none of NEVER lie beside each other (a BOLSTER between them doesn't matter)"
    private static void ordersWithNevers() {
        Check.due("two, never", Check.told("dog 1;dog 1;never 0 1;").orders(), 0);
        Check.due("with a BOLSTER", Check.told("dog 1;dog 1;never 0 1;bolster 1;").orders(), 0);
        Check.due("FREE or not", Check.told("bed 99 0;dog 1;dog 1;never 0 1;").orders(), 0);
        Check.due("three", Check.told("dog 1;dog 1;dog 1;never 0 1;").orders(), 2);
        Check.due("at the wall", Check.told("dog 1;dog 1;dog 1;never 0 1;never 0 2;").orders(), 0);
        Check.due("six NEVER of four", Check.told("dog 1;dog 1;dog 1;dog 1;never 0 1;never 0 2;never 0 3;"
                + "never 1 2;never 1 3;never 2 3;").orders(), 0);
        Check.due("one of six", Check.told("dog 1;".repeat(6) + "never 4 5;").orders(), 480);
        Check.due("one of seven", Check.told("dog 1;".repeat(7) + "never 4 5;").orders(), -2);
    }

    // "of these that by which fewest are woken": none left out, the last of 720 and the one ahead of it neither
    private static void lastOfAllOrders() {
        String six = "bed 1 1;night 5;sleeper 5 5 0 1 0 5;sleeper 9 9 1 1 0 4;sleeper 9 9 2 1 0 3;"
                + "sleeper 9 9 3 1 0 2;sleeper 9 9 4 1 0 1;sleeper 9 9 5 1 0 0;";
        // who lies as many PLACES from the edge as his LIGHT sleeps on
        SpoonRow last = Check.told(six + "wakes not light=edge;");
        Check.due("the last order", last.order(), 0);
        kept(last, 5, 4, 3, 2, 1, 0);
        Check.due("at the edge", last.edge(), 20);
        kept(last, 5, 4, 3, 2, 1, 0);
        SpoonRow ahead = Check.told(six.replace("5 5 0 1 0 5", "5 5 1 1 0 4").replace("9 9 1 1 0 4", "9 9 0 1 0 5")
                + "wakes not light=edge;");
        Check.due("the one ahead of it", ahead.order(), 0);
        kept(ahead, 5, 4, 3, 2, 0, 1);
        Check.due("at the edge", ahead.edge(), 20);
        kept(ahead, 5, 4, 3, 2, 0, 1);
    }

    // "of like ones the first as a row of SLEEPERS"
    private static void bestOfLikeOrders() {
        SpoonRow row = Check.told("dog 1;".repeat(6));
        row.swap(0, 5);
        Check.due("none woken", row.order(), 0);
        kept(row, 0, 1, 2, 3, 4, 5);
        Check.due("as they lie", row.sleeper(0, 7), 5);
        SpoonRow never = Check.told("dog 1;".repeat(6) + "never 0 1;never 0 2;never 0 3;never 0 4;");
        Check.due("none woken", never.order(), 0);
        kept(never, 0, 5, 1, 2, 3, 4);
        SpoonRow last = Check.told("dog 1;dog 1;dog 1;never 0 2;never 1 0;");
        Check.due("none at all", last.order(), -1);
    }

    private static void bestOrderOfFew() {
        SpoonRow nobody = new SpoonRow();
        Check.due("nobody's", nobody.order(), 0);
        kept(nobody);
        SpoonRow one = Check.told(LIGHT);
        Check.due("one", one.order(), 0);
        kept(one, 0);
        // 0 goes over 1, or 1 lies at the wall
        SpoonRow two = Check.told("night 9;sleeper 99 99 0 1 5 0;sleeper 99 99 0 1 0 0;");
        Check.due("two", two.order(), 0);
        kept(two, 1, 0);
        SpoonRow never = Check.told("night 9;sleeper 99 99 0 1 5 0;sleeper 99 99 0 1 0 0;dog 1;never 1 2;");
        Check.due("1, 2 apart: 0 between them", never.order(), 0);
        kept(never, 1, 0, 2);
    }

    // "NONE: none; .. (in both what is kept stays)"
    private static void noBestOrder() {
        SpoonRow row = Check.told("dog 1;sleeper 9 9 0 1 0 9;never 1 0;");
        Check.due("none", row.order(), -1);
        Check.throwing("none is kept", NoSuchElementException.class, () -> row.kept(0));
        Check.due("at the edge", row.edge(), 0);
        kept(row, 0, 1);
        Check.due("none", row.order(), -1);
        kept(row, 0, 1);
    }

    // "NoSuchElementException: none is kept, no such PLACE."
    private static void keptPlaces() {
        for (int many = 0; many <= 6; many++) {
            SpoonRow row = Check.told("dog 1;".repeat(many));
            int places = many;
            Check.throwing("none is kept", NoSuchElementException.class, () -> row.kept(0));
            Check.due("order", row.order(), 0);
            for (int place = 0; place < many; place++) {
                Check.due("kept", row.kept(place), place);
            }
            Check.throwing("one more", NoSuchElementException.class, () -> row.kept(places));
            for (int place : NO_SLEEPER) {
                Check.throwing("kept(" + place + ")", NoSuchElementException.class, () -> row.kept(place));
            }
            Check.due("none of all this", row.bed(0), 0);
            Check.throwing("gone by bed()", NoSuchElementException.class, () -> row.kept(0));
        }
    }

    // "(of order(), edge(), the latest)"
    private static void keptOfTheLatest() {
        SpoonRow row = Check.told("night 9;sleeper 99 99 0 1 5 0;sleeper 99 99 0 1 0 9;");
        row.order();
        kept(row, 1, 0);
        row.edge();
        kept(row, 0, 1);
        row.order();
        kept(row, 1, 0);
        row.orders();
        row.swap(0, 1);
        row.undo();
        row.image();
        row.restore();
        kept(row, 1, 0);
    }

    // "SPENT: more than 6 SLEEPERS."; "SPENT likewise."
    private static void spent() {
        SpoonRow six = Check.told("dog 1;".repeat(6));
        Check.due("six", six.orders(), 720);
        Check.due("six", six.order(), 0);
        Check.due("six", six.edge(), 0);
        SpoonRow seven = Check.told("dog 1;".repeat(7) + "never 0 1;");
        Check.due("seven", seven.orders(), -2);
        Check.due("seven", seven.order(), -2);
        Check.due("seven", seven.edge(), -2);
        Check.throwing("none is kept", NoSuchElementException.class, () -> seven.kept(0));
        Check.due("it counts for no STATUS", seven.count(15), 0);
    }

    // "every 0 (nobody does) to 240 minutes: by which fewest are woken"
    private static void everyFromLeastToLargest() {
        // 3 lies off by 2 of 1, so that his word wakes nobody in the hour 4; 0 beside 1 wakes him at 240
        SpoonRow row = Check.told("bed 1 1;night 240;awake 0;child 240 240 0 1 0 0;sleeper 240 240 1 1 0 0;dog 1;"
                + "child 240 240 0 1 0 0;wakes hour<4 or off=1;");
        Check.due("240", row.every(3, 0), 240);
        Check.due("then", row.every(3, 1), 0);
        Check.due("by nobody", row.night(1), 1);
        // the word of each minute leaves no TURN to who lies beside 1
        SpoonRow least = Check.told("bed 1 1;night 240;awake 0;child 2 2 0 1 0 0;sleeper 240 240 1 1 0 0;dog 1;"
                + "child 240 240 0 1 0 0;wakes off=1;");
        Check.due("1", least.every(3, 0), 1);
        Check.due("then", least.every(3, 1), 0);
        Check.due("0: who says it lies beside", least.every(0, 0), 0);
        Check.due("then", least.every(0, 1), 120);
    }

    // "of like ones the least"
    private static void everyOfLikeOnes() {
        SpoonRow row = Check.told("night 600;sleeper 1 1 0 1 0 0;child 1 1 0 1 0 0;");
        row.word(1, 240);
        Check.due("all alike", row.every(0, 0), 0);
        Check.due("all alike", row.every(0, 1), 0);
        Check.due("a child", row.every(1, 0), 0);
        Check.due("THE WORD stays", row.count(8), 1);
        Check.due("THE WORD stays", row.count(9), 240);
        Check.due("no ACT", row.count(11), 1);
    }

    // "NoSuchElementException: also another what. IllegalArgumentException (behind that): a dog."
    private static void everyRefused() {
        SpoonRow row = Check.told("night 1;sleeper 1 1 0 1 0 0;dog 1;");
        Check.throwing("a dog", IllegalArgumentException.class, () -> row.every(1, 0));
        Check.throwing("a dog", IllegalArgumentException.class, () -> row.every(1, 1));
        for (int what : NO_WHAT) {
            Check.throwing("what", NoSuchElementException.class, () -> row.every(0, what));
            Check.throwing("what, ahead of the dog", NoSuchElementException.class, () -> row.every(1, what));
        }
        for (int s : new int[] {-1, 2, Integer.MIN_VALUE, Integer.MAX_VALUE}) {
            Check.throwing("nobody", NoSuchElementException.class, () -> row.every(s, 0));
        }
        Check.due("no STATUS", row.count(15), 0);
    }

    // "of all sets of PLACES 1 to SLEEPERS less 1 that by which fewest are woken"
    private static void setsOfBolsters() {
        for (int many = 0; many <= 7; many++) {
            SpoonRow row = Check.told("bed 1 1;night 10;" + LIGHT.repeat(many));
            Check.due("each by himself of " + many, row.bolsters(0), many < 2 ? 0 : (1 << many) - 2);
            Check.due("woken then", row.bolsters(1), 0);
            Check.due("as it is", row.night(1), Math.max(0, many - 1));
            Check.due("nothing is put", row.count(5), 0);
        }
    }

    // "(of like ones the fewest, then the least as bits of PLACES)"
    private static void setsOfLikeOnes() {
        String dogs = "bed 1 1;night 10;dog 1;dog 1;dog 1;";
        SpoonRow none = Check.told(dogs + "bolster 1;bolster 2;bolster 6;");
        Check.due("the fewest: none", none.bolsters(0), 0);
        SpoonRow one = Check.told("bed 1 1;night 10;sleeper 10 10 0 1 0 0;dog 1;dog 1;sleeper 99 99 9 1 0 0;");
        Check.due("of 1, 2, 3 the least", one.bolsters(0), 2);
        // 1 alone parts the first from all; 2 and 3 as well part him from who is light
        SpoonRow fewest = Check.told("bed 1 1;night 10;" + LIGHT + "dog 1;" + LIGHT + "dog 1;" + LIGHT);
        Check.due("two of four", fewest.bolsters(0), 2 + 8);
        Check.due("woken then", fewest.bolsters(1), 0);
        SpoonRow two = Check.told("bed 1 1;night 10;dog 1;sleeper 10 10 0 1 0 0;sleeper 99 99 9 1 0 0;");
        Check.due("2 alone, though 1 is less", two.bolsters(0), 4);
    }

    // "WERE IT FREE: how often one would be woken."
    private static void wereItFree() {
        SpoonRow row = Check.told("bed 1 1;night 10;awake 0;" + LIGHT.repeat(7));
        for (int s = 0; s < 7; s++) {
            Check.due("together", row.woken(s, 0), s == 0 ? 0 : 1);
            Check.due("free", row.free(s), 0);
        }
        Check.due("it isn't", row.count(10), 0);
        row.word(3, 10);
        row.out(0, 10);
        Check.due("by the word", row.free(0), 1);
        Check.due("his own word", row.free(3), 1);
        Check.due("by both", row.free(6), 2);
        for (int s : NO_SLEEPER) {
            Check.throwing("nobody", NoSuchElementException.class, () -> row.free(s));
        }
        Check.throwing("nobody", NoSuchElementException.class, () -> row.free(-1));
        Check.throwing("nobody at all", NoSuchElementException.class, () -> new SpoonRow().free(0));
    }

    private static void fraction(SpoonRow row, int tenths) {
        int common = BigInteger.valueOf(tenths).gcd(BigInteger.TEN).intValue();
        Check.due("upper of " + tenths + " by 10", row.outs(0), tenths / common);
        Check.due("lower of " + tenths + " by 10", row.outs(1), 10 / common);
    }

    // "TENTHS (0 to 10)"; "as a fraction in lowest terms"
    private static void fractions() {
        for (int tenths = 0; tenths <= 10; tenths++) {
            for (int farther = 0; farther <= 6; farther++) {
                fraction(Check.told("sleeper 9 9 0 1 0 " + tenths + ";" + "sleeper 9 9 0 1 0 0;".repeat(farther)),
                        tenths * farther);
            }
        }
    }

    // "each (but dogs) must OUT .., and wakes .. all farther to the edge but children and dogs (awake or not)"
    private static void fractionsAtTheEnds() {
        fraction(new SpoonRow(), 0);
        fraction(Check.told("sleeper 9 9 0 1 0 10;"), 0);
        fraction(Check.told("dog 1;".repeat(7)), 0);
        fraction(Check.told("sleeper 9 9 0 1 0 10;".repeat(7)), 210);
        fraction(Check.told("child 9 9 0 1 0 10;".repeat(7)), 0);
        fraction(Check.told("child 9 9 0 1 0 3;sleeper 9 9 0 1 0 9;"), 3);
        SpoonRow row = Check.told("sleeper 9 9 0 1 0 1;dog 1;child 9 9 0 1 0 1;snorer 9 9 0 1 0 1;");
        fraction(row, 2);
        row.swap(0, 3);
        fraction(row, 2);
        row.swap(1, 3);
        // the snorer at the wall, then the sleeper, the child, the dog
        fraction(row, 1);
        row.out(0, 600);
        fraction(row, 1);
    }

    // "the order of all by which that is least .., of like ones the first; how much by 10"
    private static void edgeFromNoneToMost() {
        SpoonRow nobody = new SpoonRow();
        Check.due("nobody", nobody.edge(), 0);
        kept(nobody);
        SpoonRow one = Check.told("sleeper 9 9 0 1 0 10;");
        Check.due("one", one.edge(), 0);
        kept(one, 0);
        SpoonRow most = Check.told("sleeper 9 9 0 1 0 10;".repeat(6));
        most.swap(0, 5);
        Check.due("all alike", most.edge(), 150);
        kept(most, 0, 1, 2, 3, 4, 5);
        SpoonRow two = Check.told("sleeper 9 9 0 1 0 2;sleeper 9 9 0 1 0 1;");
        Check.due("two", two.edge(), 1);
        kept(two, 1, 0);
        Check.due("not in lowest terms", Check.told("sleeper 9 9 0 1 0 10;sleeper 9 9 0 1 0 10;").edge(), 10);
    }

    // "(NEVER isn't asked)"
    private static void edgeWithoutNever() {
        SpoonRow row = Check.told("sleeper 9 9 0 1 0 2;sleeper 9 9 0 1 0 1;never 0 1;");
        Check.due("no order", row.orders(), 0);
        Check.due("at the edge", row.edge(), 1);
        kept(row, 1, 0);
    }

    // "n of them (0 to 30), the first as it is"; "all go one PLACE to the edge, who lay there to the wall"
    private static void fairFromNoneToMost() {
        SpoonRow row = Check.told("night 9;awake 0;sleeper 99 99 0 1 5 0;sleeper 99 99 0 1 0 0;"
                + "sleeper 99 99 0 1 0 0;");
        // 0 goes over 1 and 2; 2 lies at the wall, then 1 and 2 do
        int[] of1 = {0, 1, 2, 2, 3, 4, 4};
        int[] of2 = {0, 1, 1, 1, 2, 2, 2};
        for (int n = 0; n < of1.length; n++) {
            Check.due("not himself", row.fair(n, 0), 0);
            Check.due(n + " of 1", row.fair(n, 1), of1[n]);
            Check.due(n + " of 2", row.fair(n, 2), of2[n]);
            Check.due(n + " apart", row.fair(n, -1), Math.max(of1[n], of2[n]));
        }
        Check.due("29", row.fair(29, 1), 20);
        Check.due("30", row.fair(30, 1), 20);
        Check.due("28", row.fair(28, 1), 19);
        Check.due("28 of 2", row.fair(28, 2), 10);
        for (int n : new int[] {-1, 31, 32, Integer.MIN_VALUE, Integer.MAX_VALUE}) {
            Check.throwing("fair(" + n + ", 0)", IllegalArgumentException.class, () -> row.fair(n, 0));
            Check.throwing("fair(" + n + ", -1)", IllegalArgumentException.class, () -> row.fair(n, -1));
        }
        Check.due("they lie as they lay", row.sleeper(0, 7), 0);
    }

    // "(children, dogs left out; 0 with fewer than two)"
    private static void howFarApart() {
        String goes = "night 9;awake 0;child 99 99 0 1 5 0;";
        Check.due("none", new SpoonRow().fair(30, -1), 0);
        Check.due("none who is woken", Check.told(goes + "dog 1;").fair(30, -1), 0);
        SpoonRow one = Check.told(goes + "dog 1;sleeper 99 99 0 1 0 0;");
        Check.due("one", one.fair(1, 2), 1);
        Check.due("one is apart from nobody", one.fair(1, -1), 0);
        SpoonRow two = Check.told("night 9;awake 0;sleeper 99 99 0 1 0 0;child 99 99 0 1 5 0;snorer 99 99 0 1 0 0;");
        Check.due("two", two.fair(1, -1), 1);
        Check.due("two in no night", two.fair(0, -1), 0);
        // 2, 0, 1: the child goes over nobody; 1, 2, 0: over both
        Check.due("two in three nights", two.fair(3, -1), 1);
        SpoonRow like = Check.told(goes + "sleeper 99 99 0 1 0 0;sleeper 99 99 0 1 0 0;");
        Check.due("like ones", like.fair(1, -1), 0);
    }

    // "NoSuchElementException: no such SLEEPER but NONE. IllegalArgumentException (behind that): n."
    private static void fairRefused() {
        SpoonRow row = Check.told("night 1;dog 1;dog 1;");
        Check.due("the last SLEEPER", row.fair(30, 1), 0);
        for (int s : new int[] {-2, 2, Integer.MIN_VALUE, Integer.MAX_VALUE}) {
            Check.throwing("fair(1, " + s + ")", NoSuchElementException.class, () -> row.fair(1, s));
            Check.throwing("who ahead of n", NoSuchElementException.class, () -> row.fair(31, s));
            Check.throwing("who ahead of n", NoSuchElementException.class, () -> row.fair(-1, s));
        }
        Check.throwing("nobody", NoSuchElementException.class, () -> new SpoonRow().fair(1, 0));
        Check.throwing("n of nobody", IllegalArgumentException.class, () -> new SpoonRow().fair(31, -1));
    }

    private static SpoonRow one() {
        return Check.told("bed 9 1;night 60;sleeper 240 240 0 9 0 0;");
    }

    private static void fitting(SpoonRow row, int many, int first) {
        Check.due("how many fit", row.fits(0), many);
        Check.due("the first that fits", row.fits(1), first);
    }

    // "FIRST (0, 1) and THE WORD every 0 (nobody's) to 60 minutes": nothing SEEN
    private static void allFits() {
        fitting(one(), 122, 0);
        fitting(new SpoonRow(), 122, 0);
        fitting(Check.told("dog 1;"), 122, 0);
        SpoonRow row = one();
        row.see(0, 0, 1);
        fitting(row, 61, 100);
    }

    // "the first (100 by FIRST and every)"; "1; NONE: none"
    private static void firstThatFits() {
        SpoonRow seldom = one();
        seldom.see(0, 59, 0);
        seldom.see(0, 60, 1);
        for (int minute : new int[] {12, 20, 30, 40, 15}) {
            seldom.see(0, minute, 0);
        }
        // of what says it an odd number of times at 60 first, 60 alone does so with no word at 12, 20 and 15
        fitting(seldom, 1, 60);
        SpoonRow right = one();
        right.see(0, 59, 1);
        right.see(0, 60, 0);
        for (int minute : new int[] {12, 20, 30, 40, 15, 0}) {
            right.see(0, minute, 1);
        }
        fitting(right, 1, 160);
        SpoonRow never = one();
        never.see(0, 60, 0);
        never.see(0, 60, 1);
        fitting(never, 0, -1);
        SpoonRow nobodys = Check.told("bed 9 1;night 60;awake 0;sleeper 60 240 0 9 0 0;");
        nobodys.see(0, 59, 0);
        nobodys.see(0, 60, 1);
        nobodys.see(0, 30, 0);
        nobodys.see(0, 20, 0);
        nobodys.see(0, 12, 0);
        nobodys.see(0, 4, 0);
        // by himself at 60, or by the word of 60; with FIRST 1 never
        fitting(nobodys, 2, 0);
        // every 61: no such word
        SpoonRow longer = Check.told("bed 9 1;night 61;sleeper 240 240 0 9 0 0;");
        longer.see(0, 60, 0);
        longer.see(0, 61, 1);
        longer.see(0, 1, 0);
        fitting(longer, 0, -1);
    }

    // "in a minute (0 to 600), behind all that was in it"; "(a minute that the NIGHT hasn't: as at its end)"
    private static void fitsAtTheEnds() {
        SpoonRow row = Check.told("bed 9 1;night 3;sleeper 3 240 0 9 0 0;");
        row.see(0, 2, 0);
        row.see(0, 3, 1);
        // FIRST 0: all but every 2 (right at 2), FIRST 1: none (right at 2, but for every 2: left at 3)
        int due = row.fits(0);
        for (int minute : new int[] {4, 60, 480, 600}) {
            row.see(0, minute, 1);
            Check.due("as at its end", row.fits(0), due);
        }
        Check.due("all but 2", due, 60);
        Check.due("first", row.fits(1), 0);
        row.see(0, 600, 0);
        fitting(row, 0, -1);
        SpoonRow none = Check.told("bed 9 1;night 1;sleeper 1 1 0 9 0 0;");
        none.see(0, 0, 1);
        none.see(0, 1, 0);
        fitting(none, 61, 100);
    }

    // "by whom it is now (by SLEEPER 0, if by nobody)"
    private static void fitsByNobody() {
        SpoonRow row = Check.told("bed 1 1;night 60;dog 1;sleeper 240 240 0 9 0 0;");
        row.see(1, 59, 0);
        row.see(1, 60, 1);
        int due = row.fits(0);
        row.word(1, 7);
        Check.due("whoever says it, all turn", row.fits(0), due);
        Check.due("THE WORD stays", row.count(9), 7);
        SpoonRow nobody = new SpoonRow();
        Check.throwing("nobody is SEEN", NoSuchElementException.class, () -> nobody.see(0, 0, 0));
        fitting(nobody, 122, 0);
    }

    // "SEEN (at most 8)": the first and the eighth count alike
    private static void fitsFullOfSeen() {
        SpoonRow row = one();
        for (int i = 0; i < 7; i++) {
            row.see(0, 0, 0);
        }
        fitting(row, 61, 0);
        row.see(0, 0, 1);
        fitting(row, 0, -1);
        SpoonRow first = one();
        first.see(0, 0, 1);
        for (int i = 0; i < 7; i++) {
            first.see(0, 0, 0);
        }
        fitting(first, 0, -1);
    }

    // "by how many less all others are woken, did he not lie there": nobody else
    private static void withoutTheOnlyOne() {
        SpoonRow row = Check.told("bed 1 0;night 600;sleeper 1 1 9 1 1 10;");
        row.word(0, 1);
        Check.due("the only one", row.without(0), 0);
        Check.due("he lies there still", row.count(0), 1);
        Check.due("THE WORD stays", row.count(9), 1);
        for (int s : new int[] {-1, 1, 7, Integer.MIN_VALUE, Integer.MAX_VALUE}) {
            Check.throwing("nobody", NoSuchElementException.class, () -> row.without(s));
        }
        Check.throwing("nobody at all", NoSuchElementException.class, () -> new SpoonRow().without(0));
    }

    // "THE WORD, if it is his, is nobody's"
    private static void withoutTheWord() {
        SpoonRow row = Check.told("bed 1 0;night 10;awake 0;sleeper 99 99 0 1 0 0;sleeper 99 99 9 1 0 0;"
                + "sleeper 99 99 9 1 0 0;");
        row.word(0, 1);
        Check.due("his", row.without(0), 20);
        Check.due("another's: who is woken himself doesn't count", row.without(1), 0);
        row.word(2, 1);
        Check.due("another's", row.without(0), 0);
        Check.due("his", row.without(2), 10);
        Check.due("THE WORD stays", row.count(8), 2);
    }

    // "(those farther to the edge one PLACE nearer to the wall; BOLSTERS stay; FREE it is by the others alone"
    private static void withoutInTime() {
        String three = "night 10;awake 0;" + LIGHT + LIGHT + "sleeper 99 99 9 2 0 0;";
        // WIDTHS 4, ROOM 1: 3 less is as much, 4 not
        SpoonRow four = Check.told("bed 4 1;" + three);
        Check.due("not FREE", four.count(10), 0);
        Check.due("as it is", four.night(1), 2);
        Check.due("without 2 WIDTH is 2: FREE", four.without(2), 1);
        Check.due("without 1 it is 3: FREE", four.without(1), 1);
        SpoonRow less = Check.told("bed 3 1;" + three);
        Check.due("without 2 FREE, as much", less.without(2), 1);
        Check.due("without 1 not, one less", less.without(1), 0);
        SpoonRow bolster = Check.told("bed 1 1;bolster 2;" + three);
        Check.due("0 and 1 alone together", bolster.night(1), 1);
        // 1, 2 without 0: no BOLSTER between them
        Check.due("BOLSTERS stay", bolster.without(0), 0);
        SpoonRow at1 = Check.told("bed 1 1;bolster 1;" + three);
        Check.due("1 and 2 together", at1.night(1), 1);
        Check.due("1, 2 apart by the BOLSTER that parted 0 from them", at1.without(0), 1);
        Check.due("who lies at the edge", at1.without(2), 0);
    }

    // "below 0: more"
    private static void withoutMore() {
        SpoonRow row = Check.told("bed 1 1;night 10;awake 0;sleeper 10 10 0 1 0 0;dog 9;sleeper 99 99 1 1 0 0;");
        Check.due("as it is", row.night(1), 0);
        Check.due("they lie side by side then", row.without(1), -1);
        Check.due("by nobody", row.without(0), 0);
    }

    // "n NIGHTS (0 to 40)"
    private static void yearFromNoneToMost() {
        SpoonRow row = Check.told("night 60;sleeper 99 99 0 1 0 10;sleeper 99 99 0 1 0 0;");
        for (int n : new int[] {0, 1, 2, 39, 40}) {
            Check.due("all of " + n, row.year(5, n, 0), n);
            Check.due("the most of " + n, row.year(5, n, 1), n == 0 ? 0 : 1);
            Check.due("NIGHTS of " + n, row.year(5, n, 2), 0);
        }
        SpoonRow still = Check.told("night 60;dog 1;");
        for (int n : new int[] {0, 1, 40}) {
            Check.due("all", still.year(5, n, 0), 0);
            Check.due("the most", still.year(5, n, 1), 0);
            Check.due("NIGHTS in which nobody is", still.year(5, n, 2), n);
        }
        Check.due("nobody", new SpoonRow().year(5, 40, 2), 40);
    }

    /** The seed becomes the next one; what it draws of n is drawn(next, n). */
    private static int next(int seed) {
        return BigInteger.valueOf(seed).multiply(BigInteger.valueOf(1103515245)).add(BigInteger.valueOf(12345))
                .intValue();
    }

    private static int drawn(int seed, int n) {
        int bits = 0;
        for (int bit = 16; bit <= 30; bit++) {
            bits += BigInteger.valueOf(seed).testBit(bit) ? 1 << bit - 16 : 0;
        }
        return bits % n;
    }

    // "a DRAW of 10: below his TENTHS he must OUT .., else not"
    private static void yearByTenths() {
        for (int seed = -20; seed <= 20; seed++) {
            int draw = drawn(next(seed), 10);
            Check.due("not below " + draw, out(draw).year(seed, 1, 0), 0);
            Check.due("nobody is", out(draw).year(seed, 1, 2), 1);
            Check.due("below " + (draw + 1), out(draw + 1).year(seed, 1, 0), 1);
            Check.due("never", out(0).year(seed, 1, 0), 0);
            Check.due("always", out(10).year(seed, 1, 0), 1);
        }
    }

    /** Of two the one at the wall goes out by so many TENTHS; told is that he does in the minute 1, too. */
    private static SpoonRow out(int tenths) {
        return Check.told("night 60;sleeper 99 99 0 1 1 " + tenths + ";sleeper 99 99 0 1 1 0;");
    }

    // "in the minute 1 and a DRAW of MINUTES"
    private static void yearByMinutes() {
        for (int minutes : new int[] {1, 2, 599, 600}) {
            SpoonRow row = Check.told("night " + minutes + ";sleeper 240 240 0 1 0 10;sleeper 240 240 0 1 0 0;");
            Check.due("in each of 40 NIGHTS of " + minutes, row.year(7, 40, 0), 40);
        }
        // who goes in a minute wakes whom the first TURN of the other, in the minute 30, hasn't woken by then
        for (int seed = 0; seed < 60; seed++) {
            int minute = 1 + drawn(next(next(seed)), 60);
            for (int at = Math.max(1, minute - 1); at <= Math.min(60, minute + 1); at++) {
                SpoonRow row = Check.told("bed 1 0;night 60;awake 1;child 99 99 0 1 0 10;child " + at
                        + " 99 0 1 0 0;sleeper 240 240 1 1 0 0;");
                // once in the minute of both, else twice
                Check.due("minute " + minute + ", " + at, row.year(seed, 1, 0), at == minute ? 1 : 2);
            }
        }
    }

    // "(an int that wraps)"
    private static void yearBySeedsThatWrap() {
        int[] seeds = {0, 1, -1, 2, Integer.MAX_VALUE, Integer.MIN_VALUE, Integer.MAX_VALUE - 1,
            Integer.MIN_VALUE + 1, 1103515245, -1103515245, 1 << 30, 1 << 16, 0x7fff0000, 0x80000000 | 12345};
        for (int seed : seeds) {
            for (int tenths : new int[] {1, 5, 9}) {
                int drawn = seed;
                int all = 0;
                int still = 0;
                for (int night = 0; night < 40; night++) {
                    drawn = next(drawn);
                    boolean goes = drawn(drawn, 10) < tenths;
                    drawn = goes ? next(drawn) : drawn;
                    // the draw of the other, who never goes
                    drawn = next(drawn);
                    all += goes ? 1 : 0;
                    still += goes ? 0 : 1;
                }
                Check.due("all by " + seed, out(tenths).year(seed, 40, 0), all);
                Check.due("the most by " + seed, out(tenths).year(seed, 40, 1), all > 0 ? 1 : 0);
                Check.due("NIGHTS by " + seed, out(tenths).year(seed, 40, 2), still);
            }
        }
    }

    // "for each SLEEPER (no dog), by numbers": a dog draws nothing, wherever they lie
    private static void yearDrawsForNoDog() {
        SpoonRow row = Check.told("night 60;sleeper 99 99 0 1 1 5;sleeper 99 99 0 1 1 0;");
        SpoonRow dogs = Check.told("night 60;dog 1;sleeper 99 99 0 1 1 5;dog 1;sleeper 99 99 0 1 1 0;dog 1;");
        dogs.swap(0, 4);
        dogs.swap(1, 2);
        for (int seed = 0; seed < 10; seed++) {
            Check.due("as without dogs", dogs.year(seed, 40, 0), row.year(seed, 40, 0));
        }
        // the second goes over the first now: the draws are by numbers, not by PLACES
        SpoonRow turned = Check.told("night 60;sleeper 99 99 0 1 1 0;sleeper 99 99 0 1 1 5;");
        turned.swap(0, 1);
        for (int seed = 0; seed < 10; seed++) {
            int second = drawn(next(next(seed)), 10);
            Check.due("the second draw", turned.year(seed, 1, 0), second < 5 ? 1 : 0);
        }
    }

    // "NoSuchElementException: another what. IllegalArgumentException (behind that): n."
    private static void yearRefused() {
        SpoonRow row = Check.told("night 1;dog 1;");
        for (int n : new int[] {-1, 41, 42, Integer.MIN_VALUE, Integer.MAX_VALUE}) {
            for (int what = 0; what < 3; what++) {
                int part = what;
                Check.throwing("n", IllegalArgumentException.class, () -> row.year(0, n, part));
            }
            Check.throwing("what ahead of n", NoSuchElementException.class, () -> row.year(0, n, 3));
            Check.throwing("what ahead of n", NoSuchElementException.class, () -> row.year(0, n, -1));
        }
        for (int what : new int[] {-1, 3, 4, Integer.MIN_VALUE, Integer.MAX_VALUE}) {
            Check.throwing("what", NoSuchElementException.class, () -> row.year(0, 1, what));
        }
        Check.due("the last", row.year(0, 1, 2), 1);
    }

    // "NoSuchElementException: another what."
    private static void whats() {
        SpoonRow row = Check.told("night 1;sleeper 9 9 0 1 0 3;sleeper 9 9 0 1 0 0;");
        for (int what : NO_WHAT) {
            Check.throwing("bolsters(" + what + ")", NoSuchElementException.class, () -> row.bolsters(what));
            Check.throwing("outs(" + what + ")", NoSuchElementException.class, () -> row.outs(what));
            Check.throwing("fits(" + what + ")", NoSuchElementException.class, () -> row.fits(what));
        }
        Check.due("bolsters(1)", row.bolsters(1), 0);
        Check.due("outs(1)", row.outs(1), 10);
        Check.due("fits(0)", row.fits(0), 122);
    }
}
