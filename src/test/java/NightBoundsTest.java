import java.util.NoSuchElementException;

/** Promises 13 to 16, the bounds of a bed, a minute and a night: each sentence by itself. */
final class NightBoundsTest {
    private static final String ONE_BESIDE = "bed 1 0;awake 0;sleeper 10 240 0 1 0 0;sleeper 240 240 1 1 0 0;";
    private static final int[] FAR = {Integer.MIN_VALUE, -1, Integer.MAX_VALUE};

    private NightBoundsTest() {
    }

    static void run() {
        freeBeds();
        freeBedOfNobody();
        aloneAndTogether();
        bolstersAtTheEnds();
        asLongAsOneBears();
        leastAndLargestBearing();
        minuteNone();
        firstOfThoseWhoHaveEnough();
        wordInItsMinutes();
        wordAheadOfTheOthers();
        wordOfEveryMinute();
        asFarAsLight();
        awakeForLess();
        awakeLeastAndLargest();
        awakeInTheLastMinute();
        twiceInOneMinute();
        dogsAndChildren();
        outInItsMinute();
        outAtTheEnds();
        outsFromTheWallOn();
        quietAtTheEnds();
        worstOfLikeOnes();
        shortestNight();
        longestNight();
        turnsUpToTold();
        turnsBeyondTold();
        turnsOneByOne();
        turnsThatAreNot();
        liesFromFirstToLast();
        wrongAhead();
        wokenByNobody();
    }

    private static void night(String name, SpoonRow row, int... due) {
        for (int what = 0; what < 4; what++) {
            Check.due(name + ": night(" + what + ")", row.night(what), due[what]);
        }
    }

    // "THE BED is FREE, if WIDE is as much as WIDTHS of all and ROOM together, or more."
    private static void freeBeds() {
        String two = "sleeper 9 9 0 4 0 0;dog 5;";
        Check.due("as much", Check.told("bed 12 3;" + two).count(10), 1);
        Check.due("one more", Check.told("bed 13 3;" + two).count(10), 1);
        Check.due("one less", Check.told("bed 11 3;" + two).count(10), 0);
        Check.due("a ROOM of none, as much", Check.told("bed 9 0;" + two).count(10), 1);
        Check.due("a ROOM of none, one less", Check.told("bed 8 0;" + two).count(10), 0);
        Check.due("the widest, as much", Check.told("bed 72 9;" + "dog 9;".repeat(7)).count(10), 1);
        Check.due("the widest, one less", Check.told("bed 71 9;" + "dog 9;".repeat(7)).count(10), 0);
        Check.due("without a BED, as much", Check.told("dog 9;dog 8;").count(10), 1);
        Check.due("without a BED, one less", Check.told("dog 9;dog 9;").count(10), 0);
        Check.due("told behind them", Check.told(two + "bed 12 3;").count(10), 1);
        Check.due("told behind them", Check.told(two + "bed 11 3;").count(10), 0);
    }

    // WIDTHS of none
    private static void freeBedOfNobody() {
        Check.due("as much", Check.told("bed 9 9;").count(10), 1);
        Check.due("one less", Check.told("bed 8 9;").count(10), 0);
        Check.due("no ROOM", Check.told("bed 1 0;").count(10), 1);
    }

    // "TOGETHER lie all (each alone, if it is FREE)"
    private static void aloneAndTogether() {
        String two = "night 10;sleeper 10 99 0 1 0 0;sleeper 99 99 9 1 0 0;";
        night("not FREE by one", Check.told("bed 4 3;" + two), 1, 1, 9, 1);
        SpoonRow row = Check.told("bed 5 3;" + two);
        night("FREE", row, 1, 0, 9, 0);
        Check.due("who turns", row.lies(0, 10, 0), 1);
        Check.due("who does not", row.lies(1, 10, 0), 0);
    }

    // "between the wall, BOLSTERS, the edge": ahead of the PLACES 1 and 6, and where nobody lies
    private static void bolstersAtTheEnds() {
        String seven = "bed 1 1;night 10;awake 0;sleeper 10 99 9 1 0 0;" + "sleeper 99 99 9 1 0 0;".repeat(6);
        int[] sides = {1, 1, 1, 1, 1, 1, 1};
        turnedAt10(Check.told(seven), sides);
        turnedAt10(Check.told(seven + "bolster 1;"), 1, 0, 0, 0, 0, 0, 0);
        turnedAt10(Check.told(seven + "bolster 6;"), 1, 1, 1, 1, 1, 1, 0);
        turnedAt10(Check.told(seven + "bolster 3;bolster 4;"), 1, 1, 1, 0, 0, 0, 0);
        String two = "bed 1 1;night 10;awake 0;sleeper 10 99 9 1 0 0;sleeper 99 99 9 1 0 0;";
        turnedAt10(Check.told(two + "bolster 2;bolster 6;"), 1, 1);
        turnedAt10(Check.told(two + "bolster 1;"), 1, 0);
        SpoonRow edge = Check.told(seven + "bolster 6;");
        edge.swap(0, 6);
        turnedAt10(edge, 1, 0, 0, 0, 0, 0, 0);
    }

    private static void turnedAt10(SpoonRow row, int... sides) {
        for (int s = 0; s < sides.length; s++) {
            Check.due("ahead of 10", row.lies(s, 9, 0), 0);
            Check.due("at 10: " + s, row.lies(s, 10, 0), sides[s]);
        }
    }

    // "if some have lain on one side for as many minutes as they bear it or more"
    private static void asLongAsOneBears() {
        SpoonRow row = Check.told("night 30;sleeper 10 7 0 1 0 0;");
        int[] turns = {10, 17, 27};
        Check.due("TURNS", row.night(0), 3);
        for (int i = 0; i < 3; i++) {
            Check.due("minute", row.turn(i, 0), turns[i]);
            Check.due("one minute ahead", row.lies(0, turns[i] - 1, 0), i % 2);
            Check.due("in it", row.lies(0, turns[i], 0), 1 - i % 2);
        }
        Check.due("a NIGHT one minute shorter", Check.told("night 26;sleeper 10 7 0 1 0 0;").night(0), 2);
        Check.due("as long", Check.told("night 27;sleeper 10 7 0 1 0 0;").night(0), 3);
        // turned along, one bears the side anew
        SpoonRow along = Check.told("bed 1 1;night 30;sleeper 10 30 0 1 0 0;sleeper 15 20 0 1 0 0;");
        Check.due("10 by 0, 30 by 1", along.night(0), 2);
        Check.due("20 minutes behind the first", along.turn(1, 0), 30);
        Check.due("by", along.turn(1, 1), 1);
    }

    // "LEFT, the RIGHT (1 to 240 minutes)"
    private static void leastAndLargestBearing() {
        Check.due("the least", Check.told("night 600;sleeper 1 1 0 1 0 0;").night(0), 600);
        Check.due("the largest", Check.told("night 600;sleeper 240 240 0 1 0 0;").night(0), 2);
        Check.due("as long as the NIGHT", Check.told("night 240;sleeper 240 1 0 1 0 0;").night(0), 1);
        Check.due("longer by one", Check.told("night 239;sleeper 240 1 0 1 0 0;").night(0), 0);
        Check.due("both", Check.told("night 480;sleeper 240 240 0 1 0 0;").night(0), 2);
        Check.due("both, one less", Check.told("night 479;sleeper 240 240 0 1 0 0;").night(0), 1);
        SpoonRow right = Check.told("night 240;sleeper 1 240 0 1 0 0;");
        right.side(1);
        Check.due("the right first", right.night(0), 1);
        Check.due("at the end", right.turn(0, 0), 240);
    }

    // "At minute 0 all lie on their FIRST side (0 left, 1 right; left at first)"
    private static void minuteNone() {
        SpoonRow row = Check.told("bed 1 0;night 1;awake 9;sleeper 1 1 9 1 1 0;dog 1;child 1 1 9 1 1 0;"
                + "sleeper 1 1 9 1 1 0;");
        row.word(0, 1);
        for (int first = 0; first <= 1; first++) {
            row.side(first);
            for (int s = 0; s < 4; s++) {
                Check.due("side at 0", row.lies(s, 0, 0), first);
                Check.due("awake at 0", row.lies(s, 0, 1), 0);
                Check.due("side at 1", row.lies(s, 1, 0), s == 1 ? first : 1 - first);
            }
        }
    }

    // "a TURN that the first of these (by PLACES) began"
    private static void firstOfThoseWhoHaveEnough() {
        SpoonRow row = Check.told("bed 1 1;night 10;dog 1;sleeper 99 99 0 1 0 0;sleeper 10 10 0 1 0 0;"
                + "sleeper 10 10 0 1 0 0;");
        Check.due("one TURN", row.night(0), 1);
        Check.due("by the first", row.turn(0, 1), 2);
        row.swap(2, 3);
        Check.due("by PLACES", row.turn(0, 1), 3);
        row.bolster(3, true);
        Check.due("two TURNS", row.night(0), 2);
        Check.due("from the wall on", row.turn(0, 1), 3);
        Check.due("then", row.turn(1, 1), 2);
    }

    // "if somebody says it every so many minutes, and the minute is a multiple of that"
    private static void wordInItsMinutes() {
        SpoonRow row = Check.told("bed 1 1;night 240;sleeper 240 240 0 1 0 0;sleeper 240 240 0 1 0 0;");
        int[] every = {1, 2, 7, 80, 119, 120, 121, 239, 240};
        for (int minutes : every) {
            row.word(1, minutes);
            Check.due("every " + minutes, row.woken(1, 1), 240 / minutes);
            Check.due("the first", row.turn(0, 0), minutes);
            Check.due("THE WORD", row.turn(0, 3), 1);
            Check.due("by", row.turn(0, 1), 1);
            Check.due("ahead of it", row.lies(0, minutes - 1, 0), 0);
            Check.due("in it", row.lies(0, minutes, 0), 1);
        }
        SpoonRow shorter = Check.told("bed 1 1;night 239;sleeper 240 240 0 1 0 0;");
        shorter.word(0, 240);
        Check.due("beyond the NIGHT", shorter.night(0), 0);
        shorter.word(0, 239);
        Check.due("in its last minute", shorter.night(0), 1);
    }

    // "in this order. THE WORD .. Then of those who lie TOGETHER": one minute of both
    private static void wordAheadOfTheOthers() {
        SpoonRow row = Check.told("bed 1 1;night 20;sleeper 10 10 0 1 0 0;dog 1;sleeper 99 99 0 1 0 0;");
        row.word(2, 10);
        Check.due("no TURN of his own", row.woken(0, 1), 0);
        Check.due("the word's", row.woken(2, 1), 2);
        row.word(2, 9);
        Check.due("each 9 minutes", row.woken(2, 1), 2);
        Check.due("he bears it anew", row.woken(0, 1), 0);
        row.word(2, 11);
        Check.due("10 by him, 11 by the word", row.turn(1, 0), 11);
        Check.due("10 minutes behind the word", row.night(0), 2);
    }

    // "every so many minutes (1 to 240)": the least, for all, however they lie
    private static void wordOfEveryMinute() {
        SpoonRow row = Check.told("bed 99 0;night 600;awake 0;bolster 1;sleeper 1 1 0 1 0 0;dog 1;"
                + "sleeper 1 1 2 1 0 0;");
        row.word(0, 1);
        night("every minute", row, 600, 600, 0, 2);
        Check.due("by him alone", row.woken(0, 1), 600);
        Check.due("the dog lies", row.lies(1, 599, 0), 0);
        Check.due("the last", row.turn(599, 0), 600);
    }

    // "without a rule: 'off' is no more than 'light'"
    private static void asFarAsLight() {
        for (int light = 0; light <= 9; light++) {
            String far = "sleeper 240 240 " + light + " 1 0 0;";
            SpoonRow row = Check.told("bed 1 0;night 10;sleeper 10 240 9 1 0 0;" + far.repeat(6));
            for (int off = 1; off <= 6; off++) {
                Check.due("light " + light + ", off " + off, row.woken(off, 0), off <= light ? 1 : 0);
            }
            Check.due("not himself", row.woken(0, 0), 0);
            row.swap(0, 6);
            // the beginner lies in the place 6, 6 in the place 0
            Check.due("off 6", row.woken(6, 0), light >= 6 ? 1 : 0);
            Check.due("off 1, the other way", row.woken(5, 0), light >= 1 ? 1 : 0);
        }
    }

    // "if he isn't awake (woken less than AWAKE minutes ago)"
    private static void awakeForLess() {
        String ten = "bed 1 0;night 30;sleeper 10 10 0 1 0 0;sleeper 240 240 1 1 0 0;";
        Check.due("one minute less than 10 ago", Check.told(ten + "awake 11;").woken(1, 0), 2);
        Check.due("10 ago", Check.told(ten + "awake 10;").woken(1, 0), 3);
        Check.due("more than 10 ago", Check.told(ten + "awake 9;").woken(1, 0), 3);
        Check.due("20 ago", Check.told(ten + "awake 20;").woken(1, 0), 2);
        Check.due("less than 21 ago", Check.told(ten + "awake 21;").woken(1, 0), 1);
        // who is awake turns along and is not woken, so that he falls asleep by the first time
        SpoonRow row = Check.told(ten + "awake 15;");
        Check.due("at 10 and 30", row.woken(1, 0), 2);
        int[] awake = {0, 1, 0, 1};
        int[] minutes = {9, 10, 25, 30};
        for (int i = 0; i < awake.length; i++) {
            Check.due("awake at " + minutes[i], row.lies(1, minutes[i], 1), awake[i]);
        }
        Check.due("awake at 24", row.lies(1, 24, 1), 1);
    }

    // "AWAKE (0 to 60; 15 without)"; "in it with AWAKE above 0"
    private static void awakeLeastAndLargest() {
        String one = "night 100;" + ONE_BESIDE.replace("awake 0;", "");
        for (int awake : new int[] {0, 1, 2, 59, 60}) {
            SpoonRow row = Check.told(one + "awake " + awake + ";");
            Check.due("in it with " + awake, row.lies(1, 10, 1), awake > 0 ? 1 : 0);
            Check.due("ahead of it", row.lies(1, 9, 1), 0);
            if (awake > 0) {
                Check.due("the last minute of " + awake, row.lies(1, 9 + awake, 1), 1);
            }
            Check.due("behind " + awake, row.lies(1, 10 + awake, 1), 0);
        }
        SpoonRow without = Check.told(one);
        Check.due("15 without", without.lies(1, 24, 1), 1);
        Check.due("15 without", without.lies(1, 25, 1), 0);
    }

    private static void awakeInTheLastMinute() {
        SpoonRow row = Check.told("night 10;" + ONE_BESIDE.replace("awake 0", "awake 60"));
        Check.due("awake at the end", row.lies(1, 10, 1), 1);
        Check.due("woken", row.woken(1, 0), 1);
        SpoonRow shorter = Check.told("night 9;" + ONE_BESIDE.replace("awake 0", "awake 60"));
        Check.due("a minute too short", shorter.lies(1, 9, 1), 0);
        Check.due("woken", shorter.woken(1, 0), 0);
    }

    // AWAKE of 0 minutes: by the TURN, by each who goes; of 1 minute: once
    private static void twiceInOneMinute() {
        String text = "bed 1 0;night 10;sleeper 10 99 0 1 10 0;child 99 99 0 1 10 0;sleeper 99 99 9 1 0 0;awake ";
        night("none", Check.told(text + "0;"), 1, 3, 9, 2);
        night("one", Check.told(text + "1;"), 1, 1, 9, 2);
        Check.due("by the TURN", Check.told(text + "0;").turn(0, 2), 1);
        SpoonRow word = Check.told("bed 1 0;night 1;awake 0;sleeper 1 1 9 1 0 0;sleeper 1 1 9 1 0 0;");
        word.word(0, 1);
        Check.due("the word, and no TURN behind it", word.woken(1, 0), 1);
    }

    // "A dog bears all, never turns, is never woken; a child is never woken."
    private static void dogsAndChildren() {
        SpoonRow row = Check.told("bed 1 0;night 600;awake 0;sleeper 240 240 9 1 600 0;dog 1;child 1 1 9 1 0 0;"
                + "snorer 240 240 9 1 0 0;");
        Check.due("a child begins", row.woken(2, 1), 600);
        Check.due("a dog never", row.woken(1, 1), 0);
        Check.due("a child is not woken", row.woken(2, 0), 0);
        Check.due("a dog is not woken", row.woken(1, 0), 0);
        Check.due("a sleeper is", row.woken(0, 0), 600);
        Check.due("a snorer is, and by who goes", row.woken(3, 0), 601);
        for (int minute : new int[] {0, 1, 299, 600}) {
            Check.due("a dog lies", row.lies(1, minute, 0), 0);
            Check.due("a child turns", row.lies(2, minute, 0), minute % 2);
        }
        SpoonRow dogs = Check.told("bed 1 0;night 600;" + "dog 1;".repeat(7));
        night("dogs alone bear all", dogs, 0, 0, 600, 0);
        // in all ways a child could be woken: a TURN of another, THE WORD, one who goes
        SpoonRow child = Check.told("bed 1 0;night 9;awake 0;sleeper 1 1 9 1 5 0;child 240 240 9 1 0 0;wakes 1;");
        child.word(0, 2);
        Check.due("a child never", child.woken(1, 0), 0);
        Check.due("nobody", child.night(1), 0);
    }

    // "who must OUT in this minute goes": "(0 to 600; 0 none)", in a NIGHT of MINUTES
    private static void outInItsMinute() {
        String two = "awake 0;sleeper 240 240 0 1 0 0;sleeper 240 240 0 1 0 0;night ";
        SpoonRow row = Check.told(two + "100;");
        int[] outs = {0, 1, 99, 100, 101, 600};
        int[] woken = {0, 1, 1, 1, 0, 0};
        for (int i = 0; i < outs.length; i++) {
            row.out(0, outs[i]);
            Check.due("OUT at " + outs[i], row.woken(1, 0), woken[i]);
            Check.due("not himself", row.woken(0, 0), 0);
        }
        SpoonRow awake = Check.told("awake 9;sleeper 240 240 0 1 50 0;sleeper 240 240 0 1 0 0;night 100;");
        Check.due("ahead of it", awake.lies(1, 49, 1), 0);
        Check.due("in it", awake.lies(1, 50, 1), 1);
        Check.due("then", awake.lies(1, 58, 1), 1);
        Check.due("behind it", awake.lies(1, 59, 1), 0);
        SpoonRow longest = Check.told(two + "600;");
        longest.out(0, 600);
        Check.due("the largest", longest.woken(1, 0), 1);
        SpoonRow none = Check.told(two + "1;");
        Check.due("none at minute 0", none.night(1), 0);
    }

    // "all who lie farther to the edge are woken": from the wall all, from the edge nobody
    private static void outAtTheEnds() {
        SpoonRow row = Check.told("bed 99 0;bolster 1;bolster 6;night 9;awake 0;"
                + "sleeper 240 240 0 1 0 0;".repeat(7));
        row.out(0, 5);
        Check.due("from the wall", row.night(1), 6);
        Check.due("not himself", row.woken(0, 0), 0);
        row.out(0, 0);
        row.out(6, 5);
        Check.due("from the edge", row.night(1), 0);
        row.out(5, 5);
        Check.due("one ahead of the edge", row.night(1), 1);
        Check.due("who lies there", row.woken(6, 0), 1);
        row.swap(5, 0);
        Check.due("5 lies at the wall", row.night(1), 6);
        Check.due("TURNS", row.night(0), 0);
    }

    // "Then, from the wall on, who must OUT in this minute goes": all of them
    private static void outsFromTheWallOn() {
        String all = "night 9;" + "sleeper 240 240 0 1 5 0;".repeat(7);
        SpoonRow row = Check.told(all + "awake 0;");
        Check.due("each by all nearer to the wall", row.night(1), 21);
        for (int s = 0; s < 7; s++) {
            Check.due("woken", row.woken(s, 0), s);
        }
        Check.due("once, if it lasts a minute", Check.told(all + "awake 1;").night(1), 6);
    }

    // "THE QUIET: the most minutes in a row without a TURN (of minutes 1 on)"
    private static void quietAtTheEnds() {
        int[][] due = {{1, 0, 1}, {1, 1, 0}, {2, 1, 1}, {2, 2, 1}, {2, 3, 2}, {600, 240, 239}, {240, 240, 239},
            {239, 240, 239}, {241, 240, 239}};
        for (int[] one : due) {
            int left = one[1] == 0 ? 2 : one[1];
            SpoonRow row = Check.told("night " + one[0] + ";sleeper " + left + " 240 0 1 0 0;");
            Check.due("night " + one[0] + ", LEFT " + left, row.night(2), one[2]);
        }
        Check.due("none at all", Check.told("night 600;").night(2), 600);
        Check.due("in the first minute", Check.told("night 240;sleeper 1 240 0 1 0 0;").night(2), 239);
        Check.due("in every minute", Check.told("night 600;sleeper 1 1 0 1 0 0;").night(2), 0);
        Check.due("ahead of all", Check.told("night 241;sleeper 200 40 0 1 0 0;").night(2), 199);
        Check.due("between", Check.told("night 241;sleeper 40 200 0 1 0 0;").night(2), 199);
        Check.due("behind all", Check.told("night 241;sleeper 41 240 0 1 0 0;").night(2), 200);
        // goings out are no TURNS
        Check.due("who goes", Check.told("night 9;sleeper 99 99 0 1 5 0;dog 1;").night(2), 9);
    }

    // "WHO IS WORST OFF: woken most often (of like ones the least SLEEPER; none without SLEEPERS)"
    private static void worstOfLikeOnes() {
        Check.due("none", Check.told("").night(3), -1);
        Check.due("one", Check.told("dog 1;").night(3), 0);
        Check.due("none of them is woken", Check.told("dog 1;child 1 1 0 1 0 0;sleeper 1 1 0 1 0 0;").night(3), 0);
        String out = "night 9;awake 0;sleeper 99 99 0 1 5 0;" + "sleeper 99 99 0 1 0 0;".repeat(6);
        SpoonRow row = Check.told(out);
        Check.due("the least of six", row.night(3), 1);
        row.swap(1, 6);
        Check.due("wherever he lies", row.night(3), 1);
        row.out(1, 0);
        row.out(5, 5);
        // 5 lies in the place 5, 1 in the place 6
        Check.due("more than others", row.night(3), 1);
        row.swap(6, 3);
        // 3 lies in the place 6
        Check.due("the last place", row.night(3), 3);
    }

    // "A NIGHT has MINUTES 1 to so many (1 to 600"
    private static void shortestNight() {
        SpoonRow row = Check.told("bed 1 0;night 1;sleeper 1 1 0 1 1 0;sleeper 2 2 1 1 0 0;");
        night("one minute", row, 1, 1, 0, 1);
        Check.due("turn", row.turn(0, 0), 1);
        Check.due("lies", row.lies(0, 1, 0), 1);
        Check.throwing("lies at 2", IllegalArgumentException.class, () -> row.lies(0, 2, 0));
        SpoonRow two = Check.told("bed 1 0;night 1;sleeper 2 2 0 1 2 0;sleeper 2 2 1 1 0 0;");
        night("nothing in it", two, 0, 0, 1, 0);
    }

    private static void longestNight() {
        SpoonRow row = Check.told("bed 1 0;night 600;sleeper 200 200 0 1 600 0;sleeper 240 240 1 1 0 0;");
        // 200, 400, 600; who goes at 600 wakes nobody who is not awake
        night("600 minutes", row, 3, 3, 199, 1);
        Check.due("turn", row.turn(2, 0), 600);
        Check.due("lies", row.lies(0, 600, 0), 1);
        Check.due("lies", row.lies(0, 599, 0), 0);
        Check.throwing("lies at 601", IllegalArgumentException.class, () -> row.lies(0, 601, 0));
    }

    // "TURNS (at most 1200 are told)": 1199 and 1200 of them
    private static void turnsUpToTold() {
        String two = "bed 99 0;sleeper 1 1 0 1 0 0;sleeper 1 1 0 1 0 0;";
        SpoonRow full = Check.told(two + "night 600;");
        Check.due("1200", full.night(0), 1200);
        Check.due("the last's minute", full.turn(1199, 0), 600);
        Check.due("by", full.turn(1199, 1), 1);
        Check.due("the one ahead", full.turn(1198, 1), 0);
        Check.throwing("no 1201st", NoSuchElementException.class, () -> full.turn(1200, 0));
        // 3 by 399 minutes; the fourth turns at 150 and at 390
        SpoonRow fewer = Check.told("bed 99 0;night 399;" + "sleeper 1 1 0 1 0 0;".repeat(3)
                + "sleeper 150 240 0 1 0 0;");
        Check.due("1199", fewer.night(0), 1199);
        Check.due("the last's minute", fewer.turn(1198, 0), 399);
        Check.due("by", fewer.turn(1198, 1), 2);
        Check.throwing("no 1200th", NoSuchElementException.class, () -> fewer.turn(1199, 0));
    }

    // "NoSuchElementException: there is none (of the 1200)"
    private static void turnsBeyondTold() {
        // 2 by 599 minutes; the third turns at 199, 398, 597
        SpoonRow more = Check.told("bed 99 0;night 599;sleeper 1 1 0 1 0 0;sleeper 1 1 0 1 0 0;"
                + "sleeper 199 199 0 1 0 0;");
        Check.due("1201", more.night(0), 1201);
        Check.due("the 1200th", more.turn(1199, 0), 599);
        Check.due("by", more.turn(1199, 1), 0);
        for (int what = 0; what < 4; what++) {
            int part = what;
            Check.throwing("the 1201st", NoSuchElementException.class, () -> more.turn(1200, part));
        }
        Check.throwing("the 1202nd", NoSuchElementException.class, () -> more.turn(1201, 0));
    }

    // "0 the minute, 1 who began it, 2 how many were woken by it, 3 whether it was THE WORD (1)"
    private static void turnsOneByOne() {
        SpoonRow row = Check.told("bed 1 0;night 20;awake 0;sleeper 9 9 9 1 5 0;sleeper 99 99 1 1 0 0;"
                + "snorer 99 99 9 1 0 0;dog 1;child 99 99 9 1 0 0;wakes turns*2<off+light;");
        row.word(4, 10);
        // at 5 the first goes; turns 0, 1, 2, 3: off 1 and 2 by LIGHT 1 and 9; then 4, 3, 2 by the child
        int[][] due = {{9, 0, 2, 0}, {10, 4, 3, 1}, {19, 0, 1, 0}, {20, 4, 2, 1}};
        Check.due("TURNS", row.night(0), 4);
        Check.due("woken, two by who goes", row.night(1), 2 + 2 + 3 + 1 + 2);
        for (int i = 0; i < due.length; i++) {
            for (int what = 0; what < 4; what++) {
                Check.due("turn(" + i + ", " + what + ")", row.turn(i, what), due[i][what]);
            }
        }
    }

    private static void turnsThatAreNot() {
        SpoonRow row = Check.told("night 30;sleeper 10 10 0 1 0 0;");
        Check.due("the first", row.turn(0, 0), 10);
        Check.due("the last", row.turn(2, 0), 30);
        for (int i : new int[] {-1, 3, 4, 1199, 1200, Integer.MIN_VALUE, Integer.MAX_VALUE}) {
            Check.throwing("turn(" + i + ", 0)", NoSuchElementException.class, () -> row.turn(i, 0));
        }
        for (int what : new int[] {-1, 4, 5, Integer.MIN_VALUE, Integer.MAX_VALUE}) {
            Check.throwing("turn(0, " + what + ")", NoSuchElementException.class, () -> row.turn(0, what));
        }
        SpoonRow none = Check.told("night 9;sleeper 10 10 0 1 0 0;");
        Check.throwing("none", NoSuchElementException.class, () -> none.turn(0, 0));
        Check.throwing("nobody's", NoSuchElementException.class, () -> new SpoonRow().turn(0, 0));
    }

    // "IllegalArgumentException (behind that): not 0 to MINUTES."
    private static void liesFromFirstToLast() {
        SpoonRow row = Check.told("night 7;sleeper 1 1 0 1 0 0;");
        for (int minute = 0; minute <= 7; minute++) {
            Check.due("lies at " + minute, row.lies(0, minute, 0), minute % 2);
            Check.due("awake at " + minute, row.lies(0, minute, 1), 0);
        }
        for (int minute : new int[] {-1, 8, 480, 600, Integer.MIN_VALUE, Integer.MAX_VALUE}) {
            for (int what = 0; what < 2; what++) {
                int part = what;
                Check.throwing("lies at " + minute, IllegalArgumentException.class,
                        () -> row.lies(0, minute, part));
            }
        }
        SpoonRow without = Check.told("sleeper 240 240 0 1 0 0;");
        Check.due("480 without", without.lies(0, 480, 0), 0);
        Check.throwing("481", IllegalArgumentException.class, () -> without.lies(0, 481, 0));
    }

    // "NoSuchElementException: another what", "also another what"; "(behind that)"
    private static void wrongAhead() {
        SpoonRow row = Check.told("night 7;sleeper 1 1 0 1 0 0;dog 1;");
        for (int one : FAR) {
            Check.throwing("night", NoSuchElementException.class, () -> row.night(one));
            Check.throwing("woken", NoSuchElementException.class, () -> row.woken(one, 0));
            Check.throwing("woken", NoSuchElementException.class, () -> row.woken(0, one));
            Check.throwing("lies", NoSuchElementException.class, () -> row.lies(one, 0, 0));
            Check.throwing("lies", NoSuchElementException.class, () -> row.lies(0, 0, one));
            Check.throwing("lies, who ahead of the minute", NoSuchElementException.class,
                    () -> row.lies(one, 8, 0));
            Check.throwing("lies, what ahead of the minute", NoSuchElementException.class,
                    () -> row.lies(0, -1, one));
        }
        Check.throwing("night(4)", NoSuchElementException.class, () -> row.night(4));
        Check.throwing("woken(2, 0)", NoSuchElementException.class, () -> row.woken(2, 0));
        Check.throwing("woken(0, 2)", NoSuchElementException.class, () -> row.woken(0, 2));
        Check.throwing("lies(2, 0, 0)", NoSuchElementException.class, () -> row.lies(2, 0, 0));
        Check.throwing("lies(0, 0, 2)", NoSuchElementException.class, () -> row.lies(0, 0, 2));
        Check.throwing("lies(2, 8, 0)", NoSuchElementException.class, () -> row.lies(2, 8, 0));
        Check.throwing("lies(0, 8, 2)", NoSuchElementException.class, () -> row.lies(0, 8, 2));
        Check.due("night(3)", row.night(3), 0);
        Check.due("woken(1, 1)", row.woken(1, 1), 0);
        Check.due("lies(1, 7, 1)", row.lies(1, 7, 1), 0);
    }

    // a bed in which nobody lies
    private static void wokenByNobody() {
        SpoonRow row = new SpoonRow();
        night("nobody", row, 0, 0, 480, -1);
        Check.throwing("woken", NoSuchElementException.class, () -> row.woken(0, 0));
        Check.throwing("woken", NoSuchElementException.class, () -> row.woken(-1, 1));
        Check.throwing("lies", NoSuchElementException.class, () -> row.lies(0, 0, 0));
        Check.throwing("lies ahead of the minute", NoSuchElementException.class, () -> row.lies(0, 481, 0));
        SpoonRow alone = Check.told("bed 1 0;night 600;sleeper 1 1 9 1 300 10;");
        night("one alone", alone, 600, 0, 0, 0);
        Check.due("begun", alone.woken(0, 1), 600);
    }
}
