import java.util.NoSuchElementException;

/** Sleepers in a row from the wall to the edge of a bed: when one turns, all turn. */
public final class SpoonRow {
    public static final int NONE = -1;

    private static final int SPENT = -2;
    private static final int MOST_BYTES = 600;
    private static final int BYTES_FED = 20;
    private static final int MOST_SLEEPERS = 7;
    private static final int MOST_ORDERED = 6;
    private static final int MOST_ORDERS = 720;
    private static final int LAST_PLACE = 6;
    private static final int MOST_NEVERS = 6;
    private static final int MOST_MINUTES = 600;
    private static final int LONGEST_WORD = 240;
    private static final int LONGEST_FITTING_WORD = 60;
    private static final int MOST_TURNS_TOLD = 1200;
    private static final int MOST_FAIR_NIGHTS = 30;
    private static final int MOST_YEAR_NIGHTS = 40;
    private static final int MOST_ACTS = 40;
    private static final int MOST_SEEN = 8;

    private static final int SLEEPER = 0;
    private static final int CHILD = 1;
    private static final int SNORER = 2;
    private static final int DOG = 3;

    private static final int REFUSED_TEXTS = 0;
    private static final int REFUSED_ACTS = 1;
    private static final int REFUSED_SEEN = 2;

    private static final int ACT_SWAP = 0;
    private static final int ACT_SIDE = 1;
    private static final int ACT_WORD = 2;
    private static final int ACT_BOLSTER = 3;
    private static final int ACT_OUT = 4;

    private final Row tape = new Row(MOST_BYTES);
    private int taped = 0;
    private int faultAt = NONE;
    private Bed told = new Bed();
    // The reader fills the spare one, so that a text with a fault leaves the told one alone.
    private Bed spare = new Bed();
    private final Reader reader = new Reader(spare);
    private final State now = new State();
    private final State pictured = new State();
    private boolean isPictured = false;
    private final Row keptOrder = new Row(MOST_SLEEPERS);
    private int keptPlaces = NONE;
    // What a question changes, it changes in the trial, so that nothing told is touched.
    private final Plan trial = new Plan();
    private final Night passed = new Night(told, trial);

    public SpoonRow() {
        now.settle(told);
    }

    public int feed(int a, int b, int c, int d, int e) {
        if (taped + BYTES_FED > MOST_BYTES) {
            return NONE;
        }
        feedNumber(a);
        feedNumber(b);
        feedNumber(c);
        feedNumber(d);
        feedNumber(e);
        return taped;
    }

    private void feedNumber(int number) {
        for (int shift = 24; shift >= 0; shift -= 8) {
            tape.put(taped, (number >>> shift) & 255);
            taped++;
        }
    }

    public int bed(int n) throws IllegalArgumentException {
        if (n < 0 || n > taped) {
            throw new IllegalArgumentException();
        }
        taped = 0;
        int found = reader.read(tape, n, spare);
        faultAt = reader.faultAt;
        if (found != 0) {
            now.refuse(REFUSED_TEXTS);
            return found;
        }
        Bed former = told;
        told = spare;
        spare = former;
        now.settle(told);
        isPictured = false;
        keptPlaces = NONE;
        return 0;
    }

    public int fault() {
        return faultAt;
    }

    public int count(int what) throws NoSuchElementException {
        switch (what) {
            case 0: return told.sleepers;
            case 1: return told.wide;
            case 2: return told.room;
            case 3: return told.minutes;
            case 4: return told.awake;
            case 5: return now.plan.bolsters;
            case 6: return told.nevers;
            case 7: return now.plan.first;
            case 8: return now.plan.sayer;
            case 9: return now.plan.every;
            case 10: return now.plan.isFree ? 1 : 0;
            case 11: return now.acts.size;
            case 12: return now.seen.size;
            case 13: return taped;
            case 14: return now.refused.at(REFUSED_TEXTS);
            case 15: return now.refused.at(REFUSED_ACTS);
            case 16: return now.refused.at(REFUSED_SEEN);
            default: throw new NoSuchElementException();
        }
    }

    public int sleeper(int sleeper, int what) throws NoSuchElementException {
        Sleeper who = toldSleeper(sleeper);
        switch (what) {
            case 0: return who.kind;
            case 1: return who.left;
            case 2: return who.right;
            case 3: return who.light;
            case 4: return who.width;
            case 5: return now.plan.outs.at(sleeper);
            case 6: return who.tenths;
            case 7: return now.plan.placeOf(sleeper);
            case 8: return told.enemies.at(sleeper);
            default: throw new NoSuchElementException();
        }
    }

    private Sleeper toldSleeper(int sleeper) {
        checkNumber(sleeper, told.sleepers);
        return told.who(sleeper);
    }

    private void checkNumber(int number, int below) {
        if (number < 0 || number >= below) {
            throw new NoSuchElementException();
        }
    }

    private void checkBound(int number, int most) {
        if (number < 0 || number > most) {
            throw new IllegalArgumentException();
        }
    }

    public boolean swap(int place, int other) {
        if (!isPlace(place) || !isPlace(other) || place == other) {
            now.refuse(REFUSED_ACTS);
            return false;
        }
        now.plan.order.exchange(place, other);
        now.acts.add(ACT_SWAP, place, other);
        return true;
    }

    private boolean isPlace(int place) {
        return place >= 0 && place < told.sleepers;
    }

    public int side(int side) {
        if (side != 0 && side != 1) {
            now.refuse(REFUSED_ACTS);
            return NONE;
        }
        int former = now.plan.first;
        now.acts.add(ACT_SIDE, former, 0);
        now.plan.first = side;
        return former;
    }

    public int word(int sleeper, int every) throws NoSuchElementException {
        Sleeper who = toldSleeper(sleeper);
        if (every < 0 || every > LONGEST_WORD || who.kind == DOG) {
            now.refuse(REFUSED_ACTS);
            return NONE;
        }
        int former = now.plan.every;
        now.acts.add(ACT_WORD, now.plan.sayer, former);
        now.plan.letSay(sleeper, every);
        return former;
    }

    public boolean bolster(int place, boolean put) {
        if (place < 1 || place > LAST_PLACE || now.plan.isBolsterAhead(place) == put) {
            now.refuse(REFUSED_ACTS);
            return false;
        }
        now.acts.add(ACT_BOLSTER, place, 0);
        now.plan.changeBolster(place);
        return true;
    }

    public int out(int sleeper, int minute) throws NoSuchElementException {
        Sleeper who = toldSleeper(sleeper);
        if (minute < 0 || minute > MOST_MINUTES || who.kind == DOG) {
            now.refuse(REFUSED_ACTS);
            return NONE;
        }
        int former = now.plan.outs.at(sleeper);
        now.acts.add(ACT_OUT, sleeper, former);
        now.plan.outs.put(sleeper, minute);
        return former;
    }

    public int undo() {
        if (now.acts.size == 0) {
            return NONE;
        }
        now.undoLatest();
        return now.acts.size;
    }

    public int night(int what) throws NoSuchElementException {
        checkNumber(what, 4);
        passNight();
        switch (what) {
            case 0: return passed.turns;
            case 1: return passed.woken;
            case 2: return passed.quiet;
            default: return worstOff();
        }
    }

    private void passNight() {
        passed.pass(told, now.plan, told.minutes);
    }

    private int passTrial() {
        passed.pass(told, trial, told.minutes);
        return passed.woken;
    }

    private int worstOff() {
        int worst = NONE;
        int most = NONE;
        for (int sleeper = 0; sleeper < told.sleepers; sleeper++) {
            int times = passed.lierOf(sleeper).times;
            if (times > most) {
                most = times;
                worst = sleeper;
            }
        }
        return worst;
    }

    public int woken(int sleeper, int what) throws NoSuchElementException {
        checkNumber(sleeper, told.sleepers);
        checkNumber(what, 2);
        passNight();
        Lier lier = passed.lierOf(sleeper);
        return what == 0 ? lier.times : lier.begun;
    }

    public int lies(int sleeper, int minute, int what)
            throws NoSuchElementException, IllegalArgumentException {
        checkNumber(sleeper, told.sleepers);
        checkNumber(what, 2);
        checkBound(minute, told.minutes);
        passed.pass(told, now.plan, minute);
        Lier lier = passed.lierOf(sleeper);
        if (what == 0) {
            return lier.side;
        }
        return lier.isAwake(minute, told.awake) ? 1 : 0;
    }

    public int turn(int i, int what) throws NoSuchElementException {
        checkNumber(i, MOST_TURNS_TOLD);
        checkNumber(what, 4);
        passed.watched = i;
        passNight();
        checkNumber(i, passed.turns);
        return passed.watchedTurn.at(what);
    }

    public int orders() {
        if (told.sleepers > MOST_ORDERED) {
            return SPENT;
        }
        int allowed = 0;
        trial.copy(now.plan);
        trial.order.countUp();
        boolean more = true;
        for (int i = 0; i < MOST_ORDERS && more; i++) {
            if (told.allows(trial)) {
                allowed++;
            }
            more = trial.nextOrder();
        }
        return allowed;
    }

    public int order() {
        if (told.sleepers > MOST_ORDERED) {
            return SPENT;
        }
        int fewest = NONE;
        trial.copy(now.plan);
        trial.order.countUp();
        boolean more = true;
        for (int i = 0; i < MOST_ORDERS && more; i++) {
            if (told.allows(trial)) {
                int woken = passTrial();
                if (fewest == NONE || woken < fewest) {
                    fewest = woken;
                    keepTrialOrder();
                }
            }
            more = trial.nextOrder();
        }
        return fewest;
    }

    private void keepTrialOrder() {
        keptOrder.copy(trial.order);
        keptPlaces = trial.lying;
    }

    public int kept(int place) throws NoSuchElementException {
        checkNumber(place, keptPlaces);
        return keptOrder.at(place);
    }

    public int every(int sleeper, int what)
            throws NoSuchElementException, IllegalArgumentException {
        Sleeper who = toldSleeper(sleeper);
        checkNumber(what, 2);
        if (who.kind == DOG) {
            throw new IllegalArgumentException();
        }
        int best = NONE;
        int fewest = NONE;
        trial.copy(now.plan);
        for (int every = 0; every <= LONGEST_WORD; every++) {
            trial.letSay(sleeper, every);
            int woken = passTrial();
            if (best == NONE || woken < fewest) {
                best = every;
                fewest = woken;
            }
        }
        return what == 0 ? best : fewest;
    }

    public int bolsters(int what) throws NoSuchElementException {
        checkNumber(what, 2);
        int inner = told.sleepers > 1 ? told.sleepers - 1 : 0;
        int best = NONE;
        int fewest = NONE;
        trial.copy(now.plan);
        for (int set = 0; set < 1 << inner; set++) {
            trial.bolsters = set << 1;
            int woken = passTrial();
            boolean isLike = woken == fewest && Integer.bitCount(set << 1) < Integer.bitCount(best);
            if (best == NONE || woken < fewest || isLike) {
                best = set << 1;
                fewest = woken;
            }
        }
        return what == 0 ? best : fewest;
    }

    public int free(int sleeper) throws NoSuchElementException {
        checkNumber(sleeper, told.sleepers);
        trial.copy(now.plan);
        trial.isFree = true;
        passTrial();
        return passed.lierOf(sleeper).times;
    }

    public int outs(int what) throws NoSuchElementException {
        checkNumber(what, 2);
        int upper = told.tenthsWoken(now.plan);
        int lower = 10;
        if (upper % 2 == 0) {
            upper /= 2;
            lower /= 2;
        }
        if (upper % 5 == 0) {
            upper /= 5;
            lower /= 5;
        }
        return what == 0 ? upper : lower;
    }

    public int edge() {
        if (told.sleepers > MOST_ORDERED) {
            return SPENT;
        }
        int least = NONE;
        trial.copy(now.plan);
        trial.order.countUp();
        boolean more = true;
        for (int i = 0; i < MOST_ORDERS && more; i++) {
            int tenths = told.tenthsWoken(trial);
            if (least == NONE || tenths < least) {
                least = tenths;
                keepTrialOrder();
            }
            more = trial.nextOrder();
        }
        return least;
    }

    public int fair(int n, int sleeper) throws NoSuchElementException, IllegalArgumentException {
        if (sleeper != NONE) {
            checkNumber(sleeper, told.sleepers);
        }
        checkBound(n, MOST_FAIR_NIGHTS);
        passed.forgetSums();
        trial.copy(now.plan);
        for (int i = 0; i < n; i++) {
            passTrial();
            passed.addToSums();
            trial.moveToEdge();
        }
        return sleeper == NONE ? apart() : passed.sums.at(sleeper);
    }

    private int apart() {
        int most = NONE;
        int least = NONE;
        for (int sleeper = 0; sleeper < told.sleepers; sleeper++) {
            if (told.who(sleeper).canWake()) {
                int sum = passed.sums.at(sleeper);
                most = most == NONE || sum > most ? sum : most;
                least = least == NONE || sum < least ? sum : least;
            }
        }
        return most - least;
    }

    public int see(int sleeper, int minute, int side) throws NoSuchElementException {
        Sleeper who = toldSleeper(sleeper);
        boolean isSide = side == 0 || side == 1;
        boolean isMinute = minute >= 0 && minute <= MOST_MINUTES;
        if (now.seen.size >= MOST_SEEN || !isSide || !isMinute || who.kind == DOG) {
            now.refuse(REFUSED_SEEN);
            return NONE;
        }
        now.seen.add(sleeper, minute, side);
        return now.seen.size;
    }

    public int forget() {
        if (now.seen.size == 0) {
            return NONE;
        }
        now.seen.dropLatest();
        return now.seen.size;
    }

    public int fits(int what) throws NoSuchElementException {
        checkNumber(what, 2);
        int fitting = 0;
        int earliest = NONE;
        trial.copy(now.plan);
        int sayer = now.plan.sayer == NONE ? 0 : now.plan.sayer;
        for (int first = 0; first <= 1; first++) {
            trial.first = first;
            for (int every = 0; every <= LONGEST_FITTING_WORD; every++) {
                trial.letSay(sayer, every);
                if (trialFits()) {
                    earliest = fitting == 0 ? 100 * first + every : earliest;
                    fitting++;
                }
            }
        }
        return what == 0 ? fitting : earliest;
    }

    private boolean trialFits() {
        for (int i = 0; i < now.seen.size; i++) {
            passed.pass(told, trial, Math.min(now.seen.at(i, 1), told.minutes));
            if (passed.lierOf(now.seen.at(i, 0)).side != now.seen.at(i, 2)) {
                return false;
            }
        }
        return true;
    }

    public int without(int sleeper) throws NoSuchElementException {
        checkNumber(sleeper, told.sleepers);
        passNight();
        int others = passed.woken - passed.lierOf(sleeper).times;
        trial.copy(now.plan);
        trial.leaveOut(sleeper);
        trial.isFree = told.isFreeWithout(sleeper);
        return others - passTrial();
    }

    public int year(int seed, int n, int what)
            throws NoSuchElementException, IllegalArgumentException {
        checkNumber(what, 3);
        checkBound(n, MOST_YEAR_NIGHTS);
        int all = 0;
        int most = 0;
        int still = 0;
        int drawn = seed;
        trial.copy(now.plan);
        for (int i = 0; i < n; i++) {
            drawn = trial.drawOuts(told, drawn);
            int woken = passTrial();
            all += woken;
            most = Math.max(most, woken);
            still += woken == 0 ? 1 : 0;
        }
        if (what == 0) {
            return all;
        }
        return what == 1 ? most : still;
    }

    public void image() {
        pictured.copy(now);
        isPictured = true;
    }

    public boolean restore() {
        if (!isPictured) {
            return false;
        }
        now.copy(pictured);
        return true;
    }

    /** A row of numbers that looks at an index before it uses it. */
    private static final class Row {
        private final int[] cells;

        Row(int size) {
            cells = new int[size < 0 ? 0 : size];
        }

        int at(int i) {
            return i >= 0 && i < cells.length ? cells[i] : 0;
        }

        void put(int i, int number) {
            if (i >= 0 && i < cells.length) {
                cells[i] = number;
            }
        }

        void add(int i, int number) {
            put(i, at(i) + number);
        }

        void exchange(int i, int j) {
            int former = at(i);
            put(i, at(j));
            put(j, former);
        }

        void fill(int number) {
            for (int i = 0; i < cells.length; i++) {
                cells[i] = number;
            }
        }

        void countUp() {
            for (int i = 0; i < cells.length; i++) {
                cells[i] = i;
            }
        }

        void copy(Row other) {
            for (int i = 0; i < cells.length; i++) {
                cells[i] = other.at(i);
            }
        }
    }

    /** Entries of three numbers, the latest ones, as many as there is room for. */
    private static final class Pile {
        private static final int WIDTH = 3;
        private final int most;
        private final Row numbers;
        private int size = 0;

        Pile(int most) {
            this.most = most;
            numbers = new Row(most * WIDTH);
        }

        void clear() {
            size = 0;
        }

        void add(int one, int two, int three) {
            if (size >= most) {
                dropOldest();
            }
            numbers.put(size * WIDTH, one);
            numbers.put(size * WIDTH + 1, two);
            numbers.put(size * WIDTH + 2, three);
            size++;
        }

        private void dropOldest() {
            for (int i = WIDTH; i < size * WIDTH; i++) {
                numbers.put(i - WIDTH, numbers.at(i));
            }
            size--;
        }

        void dropLatest() {
            if (size > 0) {
                size--;
            }
        }

        int at(int entry, int part) {
            return numbers.at(entry * WIDTH + part);
        }

        void copy(Pile other) {
            numbers.copy(other.numbers);
            size = other.size;
        }
    }

    /** A sleeper as the text tells him. */
    private static final class Sleeper {
        private int kind = SLEEPER;
        private int left = 0;
        private int right = 0;
        private int light = 0;
        private int width = 0;
        private int out = 0;
        private int tenths = 0;

        void tell(int kind, int width) {
            this.kind = kind;
            this.width = width;
            tellSides(0, 0, 0);
            tellOut(0, 0);
        }

        void tellSides(int left, int right, int light) {
            this.left = left;
            this.right = right;
            this.light = light;
        }

        void tellOut(int out, int tenths) {
            this.out = out;
            this.tenths = tenths;
        }

        boolean canWake() {
            return kind != CHILD && kind != DOG;
        }
    }

    /** All that a text tells. */
    private static final class Bed {
        private final Sleeper nobody = new Sleeper();
        private final Sleeper[] row = new Sleeper[MOST_SLEEPERS];
        private final Row enemies = new Row(MOST_SLEEPERS);
        private final Rule rule = new Rule();
        private int sleepers;
        private int wide;
        private int room;
        private int minutes;
        private int awake;
        private int bolsters;
        private int nevers;

        Bed() {
            for (int i = 0; i < row.length; i++) {
                row[i] = new Sleeper();
            }
            makeAnew();
        }

        void makeAnew() {
            enemies.fill(0);
            rule.clear();
            sleepers = 0;
            wide = 20;
            room = 3;
            minutes = 480;
            awake = 15;
            bolsters = 0;
            nevers = 0;
        }

        Sleeper who(int sleeper) {
            if (sleeper < 0 || sleeper >= row.length || row[sleeper] == null) {
                return nobody;
            }
            return row[sleeper];
        }

        void addNever(int one, int other) {
            enemies.put(one, enemies.at(one) | 1 << other);
            enemies.put(other, enemies.at(other) | 1 << one);
            nevers++;
        }

        boolean isNever(int one, int other) {
            return (enemies.at(one) >> other & 1) == 1;
        }

        boolean allows(Plan plan) {
            for (int place = 1; place < plan.lying; place++) {
                if (isNever(plan.order.at(place - 1), plan.order.at(place))) {
                    return false;
                }
            }
            return true;
        }

        boolean isFreeWithout(int sleeper) {
            int needed = room;
            for (int i = 0; i < sleepers; i++) {
                needed += i == sleeper ? 0 : who(i).width;
            }
            return wide >= needed;
        }

        /** How many are woken in the mean by who must out by chance, times ten. */
        int tenthsWoken(Plan plan) {
            int tenths = 0;
            int farther = 0;
            for (int place = plan.lying - 1; place >= 0; place--) {
                Sleeper who = who(plan.order.at(place));
                tenths += who.tenths * farther;
                farther += who.canWake() ? 1 : 0;
            }
            return tenths;
        }
    }

    /** The rule by which one wakes, each operation behind what it is done on. */
    private static final class Rule {
        // Numbers of the text are never below 0, so that all below 0 is free for the rest.
        private static final int LIGHT = -1;
        private static final int OFF = -2;
        private static final int TURNS = -3;
        private static final int HOUR = -4;
        private static final int SNORE = -5;
        private static final int EDGE = -6;
        private static final int WOKEN = -7;
        private static final int LAST_VALUE = -7;
        private static final int OR = -8;
        private static final int AND = -9;
        private static final int NOT = -10;
        private static final int LESS = -11;
        private static final int LIKE = -12;
        private static final int PLUS = -13;
        private static final int MINUS = -14;
        private static final int TIMES = -15;
        private static final int PART = -16;
        // Five parentheses deep there are six EXPRs; with five operations waiting in each, that is 31.
        private static final int MOST_WAITING = 40;

        private final Row steps = new Row(MOST_BYTES);
        private int size = 0;
        private final Row values = new Row(-LAST_VALUE);
        private final Row stack = new Row(MOST_WAITING);

        void clear() {
            size = 0;
        }

        boolean isTold() {
            return size > 0;
        }

        void add(int step) {
            steps.put(size, step);
            size++;
        }

        void setValue(int value, int number) {
            values.put(-1 - value, number);
        }

        boolean holds() {
            int top = NONE;
            for (int i = 0; i < size; i++) {
                int step = steps.at(i);
                if (step >= 0) {
                    top++;
                    stack.put(top, step);
                } else if (step >= LAST_VALUE) {
                    top++;
                    stack.put(top, values.at(-1 - step));
                } else if (step == NOT) {
                    stack.put(top, stack.at(top) == 0 ? 1 : 0);
                } else {
                    top--;
                    stack.put(top, joined(step, stack.at(top), stack.at(top + 1)));
                }
            }
            return stack.at(top) != 0;
        }

        private static int joined(int step, int left, int right) {
            switch (step) {
                case OR: return left != 0 || right != 0 ? 1 : 0;
                case AND: return left != 0 && right != 0 ? 1 : 0;
                case LESS: return left < right ? 1 : 0;
                case LIKE: return left == right ? 1 : 0;
                case PLUS: return left + right;
                case MINUS: return left - right;
                case TIMES: return left * right;
                default: return right == 0 ? 0 : left / right;
            }
        }
    }

    /** The tokens of a text, one at a time. */
    private static final class Tokens {
        private static final int END = 0;
        private static final int WORD = 1;
        private static final int NUMBER = 2;
        private static final int SIGN = 3;
        private static final int BLANK = 4;
        private static final int BAD = 5;
        private static final int MOST_DIGITS = 4;
        private static final int LARGEST = 9999;
        private static final int TOO_LONG = 10000;

        private Row text;
        private int length = 0;
        private int at = 0;
        private int behind = 0;
        private int kind = END;

        Tokens(Row text) {
            this.text = text;
        }

        void start(Row text, int length) {
            this.text = text;
            this.length = length;
            behind = 0;
            advance();
        }

        /** From now on the text seems to be at its end. */
        void stop() {
            behind = length;
            kind = END;
        }

        void advance() {
            at = behind;
            while (at < length && kindAt(at) == BLANK) {
                at++;
            }
            kind = at < length ? kindAt(at) : END;
            behind = kind == END ? at : at + 1;
            if (kind == WORD || kind == NUMBER) {
                while (behind < length && kindAt(behind) == kind) {
                    behind++;
                }
            }
        }

        private int kindAt(int i) {
            int one = text.at(i);
            if (one >= 'a' && one <= 'z') {
                return WORD;
            }
            if (one >= '0' && one <= '9') {
                return NUMBER;
            }
            if (one == ' ' || one == '\n') {
                return BLANK;
            }
            return ";()+-*/<=".indexOf((char) one) >= 0 ? SIGN : BAD;
        }

        /** The number that stands here; one of too many digits is more than any that may. */
        int number() {
            if (behind - at > MOST_DIGITS) {
                return TOO_LONG;
            }
            int number = 0;
            for (int i = at; i < behind; i++) {
                number = 10 * number + text.at(i) - '0';
            }
            return number;
        }

        boolean isWord(String word) {
            if (kind != WORD || behind - at != word.length()) {
                return false;
            }
            for (int i = 0; i < word.length(); i++) {
                if (text.at(at + i) != word.charAt(i)) {
                    return false;
                }
            }
            return true;
        }

        boolean isSign(char sign) {
            return kind == SIGN && text.at(at) == sign;
        }

        boolean isNumberWithin(int least, int most) {
            return kind == NUMBER && number() >= least && number() <= most;
        }
    }

    /** Reads a text into a bed, up to its first fault. */
    private static final class Reader {
        private static final int OUT_OF_PLACE = 1;
        private static final int TOO_MUCH = 2;
        private static final int UNKNOWN = 3;
        private static final int NEVER_AGAIN = 4;
        private static final int SECOND = 5;
        private static final int BED_LINE = 1;
        private static final int NIGHT_LINE = 2;
        private static final int AWAKE_LINE = 4;
        private static final int WAKES_LINE = 8;
        private static final int MOST_NESTED = 6;
        private static final int MOST_NOTS = 6;

        private final Tokens tokens = new Tokens(new Row(0));
        private Bed into;
        private int found = 0;
        private int faultAt = NONE;
        private int linesTold = 0;

        Reader(Bed into) {
            this.into = into;
        }

        int read(Row text, int length, Bed bed) {
            into = bed;
            into.makeAnew();
            found = 0;
            faultAt = NONE;
            linesTold = 0;
            tokens.start(text, length);
            for (int line = 0; line < length && tokens.kind != Tokens.END; line++) {
                readLine();
            }
            return found;
        }

        // Behind the first fault the text seems to be at its end, and later faults are not heard.
        private void refuse(int fault) {
            if (found == 0) {
                found = fault;
                faultAt = tokens.at;
            }
            tokens.stop();
        }

        private void readLine() {
            int kind = kindOfWord();
            if (kind == DOG) {
                readDog();
            } else if (kind != NONE) {
                readPerson(kind);
            } else if (tokens.isWord("bolster")) {
                readBolster();
            } else if (tokens.isWord("never")) {
                readNever();
            } else if (tokens.isWord("wakes")) {
                takeOnce(WAKES_LINE);
                readExpr(0);
            } else {
                readSetting();
            }
            takeSign(';');
        }

        private int kindOfWord() {
            if (tokens.isWord("sleeper")) {
                return SLEEPER;
            } else if (tokens.isWord("child")) {
                return CHILD;
            } else if (tokens.isWord("snorer")) {
                return SNORER;
            }
            return tokens.isWord("dog") ? DOG : NONE;
        }

        private void readSetting() {
            if (tokens.isWord("bed")) {
                takeOnce(BED_LINE);
                into.wide = takeNumber(1, 99);
                into.room = takeNumber(0, 9);
            } else if (tokens.isWord("night")) {
                takeOnce(NIGHT_LINE);
                into.minutes = takeNumber(1, MOST_MINUTES);
            } else if (tokens.isWord("awake")) {
                takeOnce(AWAKE_LINE);
                into.awake = takeNumber(0, 60);
            } else {
                refuse(OUT_OF_PLACE);
            }
        }

        private void takeOnce(int line) {
            if ((linesTold & line) != 0) {
                refuse(SECOND);
            }
            linesTold |= line;
            tokens.advance();
        }

        private int takeNumber(int least, int most) {
            if (tokens.kind != Tokens.NUMBER) {
                refuse(OUT_OF_PLACE);
            } else if (!tokens.isNumberWithin(least, most)) {
                refuse(TOO_MUCH);
            }
            int number = tokens.number();
            tokens.advance();
            return number;
        }

        private void takeSign(char sign) {
            if (!tokens.isSign(sign)) {
                refuse(OUT_OF_PLACE);
            }
            tokens.advance();
        }

        private void takeNewSleeper() {
            if (into.sleepers >= MOST_SLEEPERS) {
                refuse(TOO_MUCH);
            }
            tokens.advance();
        }

        private void readPerson(int kind) {
            takeNewSleeper();
            int left = takeNumber(1, LONGEST_WORD);
            int right = takeNumber(1, LONGEST_WORD);
            int light = takeNumber(0, 9);
            int width = takeNumber(1, 9);
            int out = takeNumber(0, MOST_MINUTES);
            int tenths = takeNumber(0, 10);
            Sleeper who = into.who(into.sleepers);
            who.tell(kind, width);
            who.tellSides(left, right, light);
            who.tellOut(out, tenths);
            into.sleepers++;
        }

        private void readDog() {
            takeNewSleeper();
            int width = takeNumber(1, 9);
            into.who(into.sleepers).tell(DOG, width);
            into.sleepers++;
        }

        private void readBolster() {
            tokens.advance();
            boolean isPlace = tokens.isNumberWithin(1, LAST_PLACE);
            if (isPlace && (into.bolsters >> tokens.number() & 1) == 1) {
                refuse(SECOND);
            }
            into.bolsters |= 1 << takeNumber(1, LAST_PLACE);
        }

        // The document tells no range for the number of a SLEEPER: what isn't told ahead is unknown.
        private void refuseUntold() {
            if (tokens.isNumberWithin(into.sleepers, Tokens.LARGEST)) {
                refuse(UNKNOWN);
            }
        }

        private void readNever() {
            if (into.nevers >= MOST_NEVERS) {
                refuse(TOO_MUCH);
            }
            tokens.advance();
            refuseUntold();
            int one = takeNumber(0, Tokens.LARGEST);
            refuseUntold();
            boolean isTold = tokens.isNumberWithin(0, into.sleepers - 1);
            if (isTold && (tokens.number() == one || into.isNever(one, tokens.number()))) {
                refuse(NEVER_AGAIN);
            }
            into.addNever(one, takeNumber(0, Tokens.LARGEST));
        }

        // Each of the loops below takes a token a round, and there are no more of them than bytes.

        private void readExpr(int within) {
            if (within >= MOST_NESTED) {
                refuse(canBeginPart() ? TOO_MUCH : OUT_OF_PLACE);
                return;
            }
            readAnd(within);
            for (int i = 0; i < MOST_BYTES && tokens.isWord("or"); i++) {
                tokens.advance();
                readAnd(within);
                into.rule.add(Rule.OR);
            }
        }

        private boolean canBeginPart() {
            return tokens.kind == Tokens.NUMBER || tokens.kind == Tokens.WORD || tokens.isSign('(');
        }

        private void readAnd(int within) {
            readNot(within);
            for (int i = 0; i < MOST_BYTES && tokens.isWord("and"); i++) {
                tokens.advance();
                readNot(within);
                into.rule.add(Rule.AND);
            }
        }

        private void readNot(int within) {
            int nots = 0;
            while (nots < MOST_NOTS && tokens.isWord("not")) {
                tokens.advance();
                nots++;
            }
            if (tokens.isWord("not")) {
                refuse(TOO_MUCH);
            }
            readTest(within);
            for (int i = 0; i < nots; i++) {
                into.rule.add(Rule.NOT);
            }
        }

        private void readTest(int within) {
            readSum(within);
            if (tokens.isSign('<') || tokens.isSign('=')) {
                int step = tokens.isSign('<') ? Rule.LESS : Rule.LIKE;
                tokens.advance();
                readSum(within);
                into.rule.add(step);
            }
        }

        private void readSum(int within) {
            readProduct(within);
            for (int i = 0; i < MOST_BYTES && (tokens.isSign('+') || tokens.isSign('-')); i++) {
                int step = tokens.isSign('+') ? Rule.PLUS : Rule.MINUS;
                tokens.advance();
                readProduct(within);
                into.rule.add(step);
            }
        }

        private void readProduct(int within) {
            readPart(within);
            for (int i = 0; i < MOST_BYTES && (tokens.isSign('*') || tokens.isSign('/')); i++) {
                int step = tokens.isSign('*') ? Rule.TIMES : Rule.PART;
                tokens.advance();
                readPart(within);
                into.rule.add(step);
            }
        }

        private void readPart(int within) {
            if (tokens.isSign('(')) {
                tokens.advance();
                readExpr(within + 1);
                takeSign(')');
            } else if (tokens.kind == Tokens.WORD) {
                readValue();
            } else {
                into.rule.add(takeNumber(0, Tokens.LARGEST));
            }
        }

        private void readValue() {
            int value = valueOfWord();
            if (value == 0) {
                refuse(UNKNOWN);
            }
            into.rule.add(value);
            tokens.advance();
        }

        private int valueOfWord() {
            if (tokens.isWord("light")) {
                return Rule.LIGHT;
            } else if (tokens.isWord("off")) {
                return Rule.OFF;
            } else if (tokens.isWord("turns")) {
                return Rule.TURNS;
            } else if (tokens.isWord("hour")) {
                return Rule.HOUR;
            } else if (tokens.isWord("snore")) {
                return Rule.SNORE;
            } else if (tokens.isWord("edge")) {
                return Rule.EDGE;
            }
            return tokens.isWord("woken") ? Rule.WOKEN : 0;
        }
    }

    /** What a night goes by, beside what the text tells. */
    private static final class Plan {
        private final Row order = new Row(MOST_SLEEPERS);
        private final Row outs = new Row(MOST_SLEEPERS);
        private int lying = 0;
        private int first = 0;
        private int sayer = NONE;
        private int every = 0;
        private int bolsters = 0;
        private boolean isFree = false;

        void settle(Bed bed) {
            order.countUp();
            for (int i = 0; i < bed.sleepers; i++) {
                outs.put(i, bed.who(i).out);
            }
            lying = bed.sleepers;
            first = 0;
            letSay(NONE, 0);
            bolsters = bed.bolsters;
            isFree = bed.isFreeWithout(NONE);
        }

        void copy(Plan other) {
            order.copy(other.order);
            outs.copy(other.outs);
            lying = other.lying;
            first = other.first;
            sayer = other.sayer;
            every = other.every;
            bolsters = other.bolsters;
            isFree = other.isFree;
        }

        void letSay(int sleeper, int every) {
            this.sayer = every == 0 ? NONE : sleeper;
            this.every = every;
        }

        int placeOf(int sleeper) {
            for (int place = 0; place < lying; place++) {
                if (order.at(place) == sleeper) {
                    return place;
                }
            }
            return NONE;
        }

        boolean isBolsterAhead(int place) {
            return (bolsters >> place & 1) == 1;
        }

        void changeBolster(int place) {
            bolsters ^= 1 << place;
        }

        /** Lays the row by the next order; false, and it stays, behind the last one. */
        boolean nextOrder() {
            int rise = lying - 2;
            while (rise >= 0 && order.at(rise) > order.at(rise + 1)) {
                rise--;
            }
            if (rise < 0) {
                return false;
            }
            int above = lying - 1;
            while (above > rise && order.at(above) < order.at(rise)) {
                above--;
            }
            order.exchange(rise, above);
            int from = rise + 1;
            for (int to = lying - 1; from < to; to--) {
                order.exchange(from, to);
                from++;
            }
            return true;
        }

        void moveToEdge() {
            for (int place = lying - 1; place > 0; place--) {
                order.exchange(place, place - 1);
            }
        }

        void leaveOut(int sleeper) {
            for (int place = placeOf(sleeper); place >= 0 && place < lying - 1; place++) {
                order.exchange(place, place + 1);
            }
            lying--;
            if (sayer == sleeper) {
                letSay(NONE, 0);
            }
        }

        /** Draws who must out, and when: the seed then. */
        int drawOuts(Bed bed, int seed) {
            int drawn = seed;
            for (int i = 0; i < bed.sleepers; i++) {
                Sleeper who = bed.who(i);
                if (who.kind != DOG) {
                    drawn = nextSeed(drawn);
                    int minute = 0;
                    if (draw(drawn, 10) < who.tenths) {
                        drawn = nextSeed(drawn);
                        minute = 1 + draw(drawn, bed.minutes);
                    }
                    outs.put(i, minute);
                }
            }
            return drawn;
        }

        private static int nextSeed(int seed) {
            return seed * 1103515245 + 12345;
        }

        private static int draw(int seed, int below) {
            return below <= 0 ? 0 : (seed >>> 16 & 32767) % below;
        }
    }

    /** What an image keeps. */
    private static final class State {
        private final Plan plan = new Plan();
        private final Pile acts = new Pile(MOST_ACTS);
        private final Pile seen = new Pile(MOST_SEEN);
        private final Row refused = new Row(3);

        void settle(Bed bed) {
            plan.settle(bed);
            acts.clear();
            seen.clear();
        }

        void copy(State other) {
            plan.copy(other.plan);
            acts.copy(other.acts);
            seen.copy(other.seen);
            refused.copy(other.refused);
        }

        void refuse(int what) {
            refused.add(what, 1);
        }

        void undoLatest() {
            int latest = acts.size - 1;
            int one = acts.at(latest, 1);
            int other = acts.at(latest, 2);
            switch (acts.at(latest, 0)) {
                case ACT_SWAP:
                    plan.order.exchange(one, other);
                    break;
                case ACT_SIDE:
                    plan.first = one;
                    break;
                case ACT_WORD:
                    plan.letSay(one, other);
                    break;
                case ACT_BOLSTER:
                    plan.changeBolster(one);
                    break;
                default:
                    plan.outs.put(one, other);
                    break;
            }
            acts.dropLatest();
        }
    }

    /** One who lies in a night, and what has become of him so far. */
    private static final class Lier {
        private Sleeper who;
        private int number = NONE;
        private int place = 0;
        private int out = 0;
        private int side = 0;
        private int since = 0;
        // Nobody is woken in the minute 0, so that it stands for never.
        private int wokenAt = 0;
        private int times = 0;
        private int begun = 0;

        Lier(Sleeper who) {
            this.who = who;
        }

        void lieDown(Sleeper sleeper, int number, int place, int out, int first) {
            who = sleeper;
            this.number = number;
            this.place = place;
            this.out = out;
            side = first;
            since = 0;
            wokenAt = 0;
            times = 0;
            begun = 0;
        }

        int tiredAt() {
            return since + (side == 0 ? who.left : who.right);
        }

        boolean isTired(int minute) {
            return who.kind != DOG && minute >= tiredAt();
        }

        void turnOver(int minute) {
            if (who.kind != DOG) {
                side = 1 - side;
                since = minute;
            }
        }

        boolean isAwake(int minute, int awake) {
            return wokenAt > 0 && minute - wokenAt < awake;
        }
    }

    /** A night, minute by minute. */
    private static final class Night {
        private final Lier nobody;
        private final Lier[] row = new Lier[MOST_SLEEPERS];
        private final Row sums = new Row(MOST_SLEEPERS);
        private final Row watchedTurn = new Row(4);
        private int watched = 0;
        private Bed bed;
        private Plan plan;
        private int minute = 0;
        private int turns = 0;
        private int woken = 0;
        private int quiet = 0;
        private int latestTurn = 0;

        Night(Bed bed, Plan plan) {
            this.bed = bed;
            this.plan = plan;
            nobody = new Lier(new Sleeper());
            for (int i = 0; i < row.length; i++) {
                row[i] = new Lier(nobody.who);
            }
        }

        void pass(Bed told, Plan by, int last) {
            bed = told;
            plan = by;
            lieDown();
            int next = nextEvent();
            for (int i = 1; i <= last; i++) {
                if (i >= next) {
                    minute = i;
                    passMinute();
                    next = nextEvent();
                }
            }
            quiet = Math.max(quiet, last - latestTurn);
        }

        private void lieDown() {
            minute = 0;
            turns = 0;
            woken = 0;
            quiet = 0;
            latestTurn = 0;
            for (int place = 0; place < plan.lying; place++) {
                int number = plan.order.at(place);
                lierIn(place).lieDown(bed.who(number), number, place, plan.outs.at(number), plan.first);
            }
        }

        Lier lierIn(int place) {
            if (place < 0 || place >= plan.lying || place >= row.length || row[place] == null) {
                return nobody;
            }
            return row[place];
        }

        Lier lierOf(int sleeper) {
            return lierIn(plan.placeOf(sleeper));
        }

        /** The next minute in which somebody turns or goes out: in those ahead nothing can happen. */
        private int nextEvent() {
            int next = MOST_MINUTES + 1;
            if (plan.every > 0) {
                next = Math.min(next, minute - minute % plan.every + plan.every);
            }
            for (int place = 0; place < plan.lying; place++) {
                Lier lier = lierIn(place);
                if (lier.who.kind != DOG) {
                    next = Math.min(next, lier.tiredAt());
                }
                if (lier.out > minute) {
                    next = Math.min(next, lier.out);
                }
            }
            return next;
        }

        private void passMinute() {
            if (plan.every > 0 && minute % plan.every == 0) {
                turnAll(0, plan.lying, lierOf(plan.sayer), true);
            }
            int from = 0;
            for (int behind = 1; behind <= plan.lying; behind++) {
                if (behind == plan.lying || plan.isFree || plan.isBolsterAhead(behind)) {
                    Lier starter = firstTired(from, behind);
                    if (starter != nobody) {
                        turnAll(from, behind, starter, false);
                    }
                    from = behind;
                }
            }
            for (int place = 0; place < plan.lying; place++) {
                if (lierIn(place).out == minute) {
                    goOver(place);
                }
            }
        }

        private Lier firstTired(int from, int behind) {
            for (int place = from; place < behind; place++) {
                Lier lier = lierIn(place);
                if (lier.isTired(minute)) {
                    return lier;
                }
            }
            return nobody;
        }

        private void turnAll(int from, int behind, Lier starter, boolean isWord) {
            for (int place = from; place < behind; place++) {
                lierIn(place).turnOver(minute);
            }
            int former = woken;
            for (int place = from; place < behind; place++) {
                Lier lier = lierIn(place);
                if (lier != starter && canBeWoken(lier) && wakes(lier, starter)) {
                    wake(lier);
                }
            }
            starter.begun++;
            if (turns == watched) {
                noteTurn(starter.number, woken - former, isWord);
            }
            turns++;
            quiet = Math.max(quiet, minute - latestTurn - 1);
            latestTurn = minute;
        }

        private void noteTurn(int starter, int wokenByIt, boolean isWord) {
            watchedTurn.put(0, minute);
            watchedTurn.put(1, starter);
            watchedTurn.put(2, wokenByIt);
            watchedTurn.put(3, isWord ? 1 : 0);
        }

        private boolean canBeWoken(Lier lier) {
            return lier.who.canWake() && !lier.isAwake(minute, bed.awake);
        }

        private boolean wakes(Lier lier, Lier starter) {
            int off = Math.abs(lier.place - starter.place);
            Rule rule = bed.rule;
            if (!rule.isTold()) {
                return off <= lier.who.light;
            }
            rule.setValue(Rule.LIGHT, lier.who.light);
            rule.setValue(Rule.OFF, off);
            rule.setValue(Rule.TURNS, turns);
            rule.setValue(Rule.HOUR, minute / 60);
            rule.setValue(Rule.SNORE, snorersIn(lier.place - 1) + snorersIn(lier.place + 1));
            rule.setValue(Rule.EDGE, plan.lying - 1 - lier.place);
            rule.setValue(Rule.WOKEN, lier.times);
            return rule.holds();
        }

        private int snorersIn(int place) {
            return lierIn(place).who.kind == SNORER ? 1 : 0;
        }

        private void wake(Lier lier) {
            lier.wokenAt = minute;
            lier.times++;
            woken++;
        }

        private void goOver(int place) {
            for (int farther = place + 1; farther < plan.lying; farther++) {
                Lier lier = lierIn(farther);
                if (canBeWoken(lier)) {
                    wake(lier);
                }
            }
        }

        void forgetSums() {
            sums.fill(0);
        }

        void addToSums() {
            for (int place = 0; place < plan.lying; place++) {
                Lier lier = lierIn(place);
                sums.add(lier.number, lier.times);
            }
        }
    }
}
