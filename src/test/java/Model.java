import java.util.ArrayList;
import java.util.Collections;
import java.util.HashMap;
import java.util.List;
import java.util.Map;
import java.util.NoSuchElementException;
import java.util.TreeSet;
import java.util.function.ToIntFunction;

/**
 * The document once more, in the slowest and plainest way that could be thought of, to compare the
 * class with: lists and maps, every minute of every night, nothing left out for speed.
 */
final class Model {
    private static final List<String> KINDS = List.of("sleeper", "child", "snorer", "dog");

    record Person(String kind, int left, int right, int light, int width, int out, int tenths) {
        boolean isDog() {
            return kind.equals("dog");
        }

        boolean isEverWoken() {
            return kind.equals("sleeper") || kind.equals("snorer");
        }
    }

    static final class Told {
        final List<Person> people = new ArrayList<>();
        final List<TreeSet<Integer>> nevers = new ArrayList<>();
        final TreeSet<Integer> bolsters = new TreeSet<>();
        int wide = 20;
        int room = 3;
        int minutes = 480;
        int awake = 15;
        ToIntFunction<Map<String, Integer>> rule = v -> v.get("off") <= v.get("light") ? 1 : 0;
    }

    /** All by which a night goes. */
    static final class Way {
        List<Integer> order = new ArrayList<>();
        Map<Integer, Integer> outs = new HashMap<>();
        TreeSet<Integer> bolsters = new TreeSet<>();
        int first = 0;
        int sayer = -1;
        int every = 0;
        boolean free;

        Way copy() {
            Way way = new Way();
            way.order = new ArrayList<>(order);
            way.outs = new HashMap<>(outs);
            way.bolsters = new TreeSet<>(bolsters);
            way.first = first;
            way.sayer = sayer;
            way.every = every;
            way.free = free;
            return way;
        }
    }

    record Turn(int minute, int by, int woken, boolean word) {
    }

    /** What a night was: sides and who is awake behind each minute, too. */
    final class Night {
        final Map<Integer, Integer> woken = new HashMap<>();
        final Map<Integer, Integer> wokenAt = new HashMap<>();
        final Map<Integer, Integer> side = new HashMap<>();
        final Map<Integer, Integer> since = new HashMap<>();
        final List<Turn> turns = new ArrayList<>();
        final List<Map<Integer, Integer>> sides = new ArrayList<>();
        final List<TreeSet<Integer>> awake = new ArrayList<>();
        final Way way;
        int minute = 0;

        Night(Way way) {
            this.way = way;
            for (int s : way.order) {
                woken.put(s, 0);
                side.put(s, way.first);
                since.put(s, 0);
            }
            note();
            for (minute = 1; minute <= told.minutes; minute++) {
                pass();
                note();
            }
        }

        private void note() {
            sides.add(new HashMap<>(side));
            TreeSet<Integer> now = new TreeSet<>();
            way.order.stream().filter(this::isAwake).forEach(now::add);
            awake.add(now);
        }

        private boolean isAwake(int s) {
            return wokenAt.containsKey(s) && minute - wokenAt.get(s) < told.awake;
        }

        private void pass() {
            if (way.every != 0 && minute % way.every == 0) {
                turn(way.order, way.sayer, true);
            }
            for (List<Integer> group : groups()) {
                for (int s : group) {
                    Person p = told.people.get(s);
                    int bears = side.get(s) == 0 ? p.left() : p.right();
                    if (!p.isDog() && minute - since.get(s) >= bears) {
                        turn(group, s, false);
                        break;
                    }
                }
            }
            for (int place = 0; place < way.order.size(); place++) {
                if (way.outs.getOrDefault(way.order.get(place), 0) == minute) {
                    for (int s : way.order.subList(place + 1, way.order.size())) {
                        wakeUnlessAwake(s);
                    }
                }
            }
        }

        private List<List<Integer>> groups() {
            List<List<Integer>> groups = new ArrayList<>();
            for (int place = 0; place < way.order.size(); place++) {
                if (place == 0 || way.free || way.bolsters.contains(place)) {
                    groups.add(new ArrayList<>());
                }
                groups.get(groups.size() - 1).add(way.order.get(place));
            }
            return groups;
        }

        private void turn(List<Integer> who, int by, boolean word) {
            List<Integer> turned = who.stream().filter(s -> !told.people.get(s).isDog()).toList();
            for (int s : turned) {
                side.put(s, 1 - side.get(s));
                since.put(s, minute);
            }
            int before = all();
            for (int s : turned) {
                if (s != by && told.rule.applyAsInt(values(s, by)) != 0) {
                    wakeUnlessAwake(s);
                }
            }
            turns.add(new Turn(minute, by, all() - before, word));
        }

        private Map<String, Integer> values(int s, int by) {
            int place = way.order.indexOf(s);
            int snore = 0;
            for (int beside : new int[] {place - 1, place + 1}) {
                if (beside >= 0 && beside < way.order.size()
                        && told.people.get(way.order.get(beside)).kind().equals("snorer")) {
                    snore++;
                }
            }
            return Map.of("light", told.people.get(s).light(),
                    "off", Math.abs(place - way.order.indexOf(by)),
                    "turns", turns.size(), "hour", minute / 60, "snore", snore,
                    "edge", way.order.size() - 1 - place, "woken", woken.get(s));
        }

        private void wakeUnlessAwake(int s) {
            if (told.people.get(s).isEverWoken() && !isAwake(s)) {
                woken.merge(s, 1, Integer::sum);
                wokenAt.put(s, minute);
            }
        }

        int all() {
            return woken.values().stream().mapToInt(i -> i).sum();
        }

        int quiet() {
            int most = 0;
            int now = 0;
            for (int m = 1; m <= told.minutes; m++) {
                int minuteNow = m;
                now = turns.stream().anyMatch(t -> t.minute() == minuteNow) ? 0 : now + 1;
                most = Math.max(most, now);
            }
            return most;
        }
    }

    // ---- the text ----

    static final class Fault extends RuntimeException {
        private static final long serialVersionUID = 1L;
        final int code;
        final int at;

        Fault(int code, int at) {
            super(null, null, false, false);
            this.code = code;
            this.at = at;
        }
    }

    record Token(char kind, String text, int at) {
    }

    static final class Parser {
        private final List<Token> tokens = new ArrayList<>();
        private int next = 0;
        private final Told told = new Told();
        private final TreeSet<String> once = new TreeSet<>();

        Parser(String text) {
            java.util.regex.Matcher m = java.util.regex.Pattern
                    .compile("[ \n]+|([a-z]+)|([0-9]+)|([;()+*/<=-])|([\\x00-\\xff])").matcher(text);
            while (m.find()) {
                if (m.group(1) != null) {
                    tokens.add(new Token('w', m.group(), m.start()));
                } else if (m.group(2) != null) {
                    tokens.add(new Token('n', m.group(), m.start()));
                } else if (m.group(3) != null) {
                    tokens.add(new Token('s', m.group(), m.start()));
                } else if (m.group(4) != null) {
                    tokens.add(new Token('?', m.group(), m.start()));
                }
            }
            tokens.add(new Token('e', "", text.length()));
        }

        Told parse() {
            while (now().kind() != 'e') {
                line();
                sign(";");
            }
            return told;
        }

        private Token now() {
            return tokens.get(next);
        }

        private boolean is(String text) {
            return now().text().equals(text) && now().kind() != '?';
        }

        private void fail(int code) {
            throw new Fault(code, now().at());
        }

        private void sign(String sign) {
            if (!is(sign)) {
                fail(1);
            }
            next++;
        }

        private void line() {
            String word = now().kind() == 'w' ? now().text() : "";
            switch (word) {
                case "sleeper", "child", "snorer", "dog" -> person(word);
                case "bed", "night", "awake", "wakes" -> {
                    if (!once.add(word)) {
                        fail(5);
                    }
                    next++;
                    single(word);
                }
                case "bolster" -> {
                    next++;
                    look(1, 6);
                    if (!told.bolsters.add(Integer.parseInt(now().text()))) {
                        fail(5);
                    }
                    next++;
                }
                case "never" -> never();
                default -> fail(1);
            }
        }

        private void single(String word) {
            switch (word) {
                case "bed" -> {
                    told.wide = number(1, 99);
                    told.room = number(0, 9);
                }
                case "night" -> told.minutes = number(1, 600);
                case "awake" -> told.awake = number(0, 60);
                default -> told.rule = expr(0);
            }
        }

        private void person(String kind) {
            if (told.people.size() == 7) {
                fail(2);
            }
            next++;
            if (kind.equals("dog")) {
                told.people.add(new Person(kind, 0, 0, 0, number(1, 9), 0, 0));
            } else {
                told.people.add(new Person(kind, number(1, 240), number(1, 240), number(0, 9),
                        number(1, 9), number(0, 600), number(0, 10)));
            }
        }

        private void never() {
            if (told.nevers.size() == 6) {
                fail(2);
            }
            next++;
            TreeSet<Integer> two = new TreeSet<>();
            two.add(known());
            next++;
            if (!two.add(known()) || told.nevers.contains(two)) {
                fail(4);
            }
            next++;
            told.nevers.add(two);
        }

        private int known() {
            int number = look(0, 9999);
            if (number >= told.people.size()) {
                fail(3);
            }
            return number;
        }

        private int look(int least, int most) {
            if (now().kind() != 'n') {
                fail(1);
            }
            if (now().text().length() > 4) {
                fail(2);
            }
            int number = Integer.parseInt(now().text());
            if (number < least || number > most) {
                fail(2);
            }
            return number;
        }

        private int number(int least, int most) {
            int number = look(least, most);
            next++;
            return number;
        }

        private ToIntFunction<Map<String, Integer>> expr(int within) {
            if (within == 6) {
                fail(now().kind() == 'n' || now().kind() == 'w' || is("(") ? 2 : 1);
            }
            ToIntFunction<Map<String, Integer>> left = and(within);
            while (is("or")) {
                next++;
                ToIntFunction<Map<String, Integer>> l = left;
                ToIntFunction<Map<String, Integer>> r = and(within);
                left = v -> bit(l.applyAsInt(v) != 0 | r.applyAsInt(v) != 0);
            }
            return left;
        }

        private static int bit(boolean holds) {
            return holds ? 1 : 0;
        }

        private ToIntFunction<Map<String, Integer>> and(int within) {
            ToIntFunction<Map<String, Integer>> left = not(within, 1);
            while (is("and")) {
                next++;
                ToIntFunction<Map<String, Integer>> l = left;
                ToIntFunction<Map<String, Integer>> r = not(within, 1);
                left = v -> bit(l.applyAsInt(v) != 0 & r.applyAsInt(v) != 0);
            }
            return left;
        }

        private ToIntFunction<Map<String, Integer>> not(int within, int nth) {
            if (is("not")) {
                if (nth == 7) {
                    fail(2);
                }
                next++;
                ToIntFunction<Map<String, Integer>> inner = not(within, nth + 1);
                return v -> bit(inner.applyAsInt(v) == 0);
            }
            ToIntFunction<Map<String, Integer>> left = sum(within);
            if (is("<")) {
                next++;
                ToIntFunction<Map<String, Integer>> right = sum(within);
                return v -> bit(left.applyAsInt(v) < right.applyAsInt(v));
            }
            if (is("=")) {
                next++;
                ToIntFunction<Map<String, Integer>> right = sum(within);
                return v -> bit(left.applyAsInt(v) == right.applyAsInt(v));
            }
            return left;
        }

        private ToIntFunction<Map<String, Integer>> sum(int within) {
            ToIntFunction<Map<String, Integer>> left = product(within);
            while (is("+") || is("-")) {
                boolean plus = is("+");
                next++;
                ToIntFunction<Map<String, Integer>> l = left;
                ToIntFunction<Map<String, Integer>> r = product(within);
                left = v -> plus ? l.applyAsInt(v) + r.applyAsInt(v) : l.applyAsInt(v) - r.applyAsInt(v);
            }
            return left;
        }

        private ToIntFunction<Map<String, Integer>> product(int within) {
            ToIntFunction<Map<String, Integer>> left = part(within);
            while (is("*") || is("/")) {
                boolean times = is("*");
                next++;
                ToIntFunction<Map<String, Integer>> l = left;
                ToIntFunction<Map<String, Integer>> r = part(within);
                left = v -> times ? l.applyAsInt(v) * r.applyAsInt(v) : cut(l.applyAsInt(v), r.applyAsInt(v));
            }
            return left;
        }

        private static int cut(int left, int right) {
            return right == 0 ? 0 : (int) ((long) left / (long) right);
        }

        private ToIntFunction<Map<String, Integer>> part(int within) {
            if (is("(")) {
                next++;
                ToIntFunction<Map<String, Integer>> inner = expr(within + 1);
                sign(")");
                return inner;
            }
            if (now().kind() == 'w') {
                String word = now().text();
                if (!List.of("light", "off", "turns", "hour", "snore", "edge", "woken").contains(word)) {
                    fail(3);
                }
                next++;
                return v -> v.get(word);
            }
            int number = number(0, 9999);
            return v -> number;
        }
    }

    // ---- the face ----

    private final StringBuilder tape = new StringBuilder();
    private Told told = new Told();
    private Way now = new Way();
    private List<Runnable> acts = new ArrayList<>();
    private List<int[]> seen = new ArrayList<>();
    private int[] refused = new int[3];
    private int faultAt = -1;
    private List<Integer> keptOrder = null;
    private Runnable image = null;

    Model() {
        settle();
    }

    private void settle() {
        now = new Way();
        for (int s = 0; s < told.people.size(); s++) {
            now.order.add(s);
            now.outs.put(s, told.people.get(s).out());
        }
        now.bolsters.addAll(told.bolsters);
        now.free = isFree(now.order);
        acts = new ArrayList<>();
        seen = new ArrayList<>();
        keptOrder = null;
        image = null;
    }

    private boolean isFree(List<Integer> who) {
        return told.wide >= told.room + who.stream().mapToInt(s -> told.people.get(s).width()).sum();
    }

    int feed(int a, int b, int c, int d, int e) {
        if (tape.length() > 580) {
            return -1;
        }
        for (int number : new int[] {a, b, c, d, e}) {
            for (byte one : java.nio.ByteBuffer.allocate(4).putInt(number).array()) {
                tape.append((char) (one & 255));
            }
        }
        return tape.length();
    }

    int bed(int n) {
        if (n < 0 || n > tape.length()) {
            throw new IllegalArgumentException();
        }
        String text = tape.substring(0, n);
        tape.setLength(0);
        try {
            told = new Parser(text).parse();
        } catch (Fault fault) {
            faultAt = fault.at;
            refused[0]++;
            return fault.code;
        }
        faultAt = -1;
        settle();
        return 0;
    }

    int fault() {
        return faultAt;
    }

    int count(int what) {
        int bits = now.bolsters.stream().mapToInt(p -> 1 << p).sum();
        List<Integer> answers = List.of(told.people.size(), told.wide, told.room, told.minutes,
                told.awake, bits, told.nevers.size(), now.first, now.sayer, now.every);
        if (what >= 0 && what < 10) {
            return answers.get(what);
        }
        return switch (what) {
            case 10 -> now.free ? 1 : 0;
            case 11 -> acts.size();
            case 12 -> seen.size();
            case 13 -> tape.length();
            case 14, 15, 16 -> refused[what - 14];
            default -> throw new NoSuchElementException();
        };
    }

    private Person person(int sleeper) {
        if (sleeper < 0 || sleeper >= told.people.size()) {
            throw new NoSuchElementException();
        }
        return told.people.get(sleeper);
    }

    private static void among(int what, int below) {
        if (what < 0 || what >= below) {
            throw new NoSuchElementException();
        }
    }

    private static void argument(boolean holds) {
        if (!holds) {
            throw new IllegalArgumentException();
        }
    }

    int sleeper(int sleeper, int what) {
        Person p = person(sleeper);
        among(what, 9);
        return switch (what) {
            case 0 -> KINDS.indexOf(p.kind());
            case 1 -> p.left();
            case 2 -> p.right();
            case 3 -> p.light();
            case 4 -> p.width();
            case 5 -> now.outs.get(sleeper);
            case 6 -> p.tenths();
            case 7 -> now.order.indexOf(sleeper);
            default -> told.nevers.stream().filter(two -> two.contains(sleeper))
                    .mapToInt(two -> two.stream().filter(s -> s != sleeper).mapToInt(s -> 1 << s).sum())
                    .sum();
        };
    }

    private void act(Runnable undo) {
        acts.add(undo);
        if (acts.size() > 40) {
            acts.remove(0);
        }
    }

    private int refuse(int what) {
        refused[what]++;
        return -1;
    }

    boolean swap(int place, int other) {
        int n = told.people.size();
        if (place < 0 || other < 0 || place >= n || other >= n || place == other) {
            return refuse(1) == 0;
        }
        Collections.swap(now.order, place, other);
        act(() -> Collections.swap(now.order, place, other));
        return true;
    }

    int side(int side) {
        if (side != 0 && side != 1) {
            return refuse(1);
        }
        int former = now.first;
        now.first = side;
        act(() -> now.first = former);
        return former;
    }

    int word(int sleeper, int every) {
        if (person(sleeper).isDog() || every < 0 || every > 240) {
            return refuse(1);
        }
        int former = now.every;
        int formerSayer = now.sayer;
        now.every = every;
        now.sayer = every == 0 ? -1 : sleeper;
        act(() -> {
            now.every = former;
            now.sayer = formerSayer;
        });
        return former;
    }

    boolean bolster(int place, boolean put) {
        if (place < 1 || place > 6 || now.bolsters.contains(place) == put) {
            return refuse(1) == 0;
        }
        if (put) {
            now.bolsters.add(place);
            act(() -> now.bolsters.remove(place));
        } else {
            now.bolsters.remove(place);
            act(() -> now.bolsters.add(place));
        }
        return true;
    }

    int out(int sleeper, int minute) {
        if (person(sleeper).isDog() || minute < 0 || minute > 600) {
            return refuse(1);
        }
        int former = now.outs.put(sleeper, minute);
        act(() -> now.outs.put(sleeper, former));
        return former;
    }

    int undo() {
        if (acts.isEmpty()) {
            return -1;
        }
        acts.remove(acts.size() - 1).run();
        return acts.size();
    }

    int night(int what) {
        among(what, 4);
        Night night = new Night(now);
        int worst = -1;
        for (int s = 0; s < told.people.size(); s++) {
            if (worst == -1 || night.woken.get(s) > night.woken.get(worst)) {
                worst = s;
            }
        }
        return List.of(night.turns.size(), night.all(), night.quiet(), worst).get(what);
    }

    int woken(int sleeper, int what) {
        person(sleeper);
        among(what, 2);
        Night night = new Night(now);
        return what == 0 ? night.woken.get(sleeper)
                : (int) night.turns.stream().filter(t -> t.by() == sleeper).count();
    }

    int lies(int sleeper, int minute, int what) {
        person(sleeper);
        among(what, 2);
        argument(minute >= 0 && minute <= told.minutes);
        Night night = new Night(now);
        return what == 0 ? night.sides.get(minute).get(sleeper)
                : night.awake.get(minute).contains(sleeper) ? 1 : 0;
    }

    int turn(int i, int what) {
        among(what, 4);
        List<Turn> turns = new Night(now).turns;
        among(i, Math.min(1200, turns.size()));
        Turn turn = turns.get(i);
        return List.of(turn.minute(), turn.by(), turn.woken(), turn.word() ? 1 : 0).get(what);
    }

    private void allOrders(List<Integer> begun, List<List<Integer>> all) {
        if (begun.size() == told.people.size()) {
            all.add(begun);
            return;
        }
        for (int s = 0; s < told.people.size(); s++) {
            if (!begun.contains(s)) {
                List<Integer> longer = new ArrayList<>(begun);
                longer.add(s);
                allOrders(longer, all);
            }
        }
    }

    private List<List<Integer>> allOrders() {
        List<List<Integer>> all = new ArrayList<>();
        allOrders(List.of(), all);
        return all;
    }

    private boolean isAllowed(List<Integer> order) {
        for (int place = 1; place < order.size(); place++) {
            if (told.nevers.contains(new TreeSet<>(order.subList(place - 1, place + 1)))) {
                return false;
            }
        }
        return true;
    }

    int orders() {
        return told.people.size() > 6 ? -2 : (int) allOrders().stream().filter(this::isAllowed).count();
    }

    int order() {
        if (told.people.size() > 6) {
            return -2;
        }
        int best = -1;
        for (List<Integer> order : allOrders()) {
            if (isAllowed(order)) {
                Way way = now.copy();
                way.order = order;
                int woken = new Night(way).all();
                if (best == -1 || woken < best) {
                    best = woken;
                    keptOrder = order;
                }
            }
        }
        return best;
    }

    int kept(int place) {
        if (keptOrder == null) {
            throw new NoSuchElementException();
        }
        among(place, keptOrder.size());
        return keptOrder.get(place);
    }

    int every(int sleeper, int what) {
        Person p = person(sleeper);
        among(what, 2);
        argument(!p.isDog());
        TreeSet<Long> all = new TreeSet<>();
        for (int every = 0; every <= 240; every++) {
            Way way = now.copy();
            way.every = every;
            way.sayer = sleeper;
            all.add(new Night(way).all() * 1000L + every);
        }
        return (int) (what == 0 ? all.first() % 1000 : all.first() / 1000);
    }

    int bolsters(int what) {
        among(what, 2);
        TreeSet<Long> all = new TreeSet<>();
        for (int bits = 0; bits < 128; bits++) {
            Way way = now.copy();
            way.bolsters.clear();
            boolean fits = (bits & 1) == 0;
            for (int place = 1; place <= 6; place++) {
                if ((bits >> place & 1) == 1) {
                    way.bolsters.add(place);
                    fits &= place <= told.people.size() - 1;
                }
            }
            if (fits) {
                all.add(new Night(way).all() * 10000L + Integer.bitCount(bits) * 1000L + bits);
            }
        }
        return (int) (what == 0 ? all.first() % 1000 : all.first() / 10000);
    }

    int free(int sleeper) {
        person(sleeper);
        Way way = now.copy();
        way.free = true;
        return new Night(way).woken.get(sleeper);
    }

    private int tenths(List<Integer> order) {
        int tenths = 0;
        for (int place = 0; place < order.size(); place++) {
            for (int farther = place + 1; farther < order.size(); farther++) {
                if (told.people.get(order.get(farther)).isEverWoken()) {
                    tenths += told.people.get(order.get(place)).tenths();
                }
            }
        }
        return tenths;
    }

    int outs(int what) {
        among(what, 2);
        int tenths = tenths(now.order);
        int common = java.math.BigInteger.valueOf(tenths).gcd(java.math.BigInteger.TEN).intValue();
        return what == 0 ? tenths / common : 10 / common;
    }

    int edge() {
        if (told.people.size() > 6) {
            return -2;
        }
        List<List<Integer>> all = allOrders();
        keptOrder = all.get(0);
        for (List<Integer> order : all) {
            if (tenths(order) < tenths(keptOrder)) {
                keptOrder = order;
            }
        }
        return tenths(keptOrder);
    }

    int fair(int n, int sleeper) {
        if (sleeper != -1) {
            person(sleeper);
        }
        argument(n >= 0 && n <= 30);
        int[] sums = new int[told.people.size()];
        Way way = now.copy();
        for (int i = 0; i < n; i++) {
            Night night = new Night(way);
            night.woken.forEach((s, times) -> sums[s] += times);
            way = way.copy();
            Collections.rotate(way.order, 1);
        }
        if (sleeper != -1) {
            return sums[sleeper];
        }
        List<Integer> asked = new ArrayList<>();
        for (int s = 0; s < sums.length; s++) {
            if (told.people.get(s).isEverWoken()) {
                asked.add(sums[s]);
            }
        }
        return asked.isEmpty() ? 0 : Collections.max(asked) - Collections.min(asked);
    }

    int see(int sleeper, int minute, int side) {
        Person p = person(sleeper);
        if (p.isDog() || seen.size() == 8 || side < 0 || side > 1 || minute < 0 || minute > 600) {
            return refuse(2);
        }
        seen.add(new int[] {sleeper, minute, side});
        return seen.size();
    }

    int forget() {
        if (seen.isEmpty()) {
            return -1;
        }
        seen.remove(seen.size() - 1);
        return seen.size();
    }

    int fits(int what) {
        among(what, 2);
        List<Integer> fitting = new ArrayList<>();
        for (int first = 0; first <= 1; first++) {
            for (int every = 0; every <= 60; every++) {
                Way way = now.copy();
                way.first = first;
                way.every = every;
                way.sayer = now.every == 0 ? 0 : now.sayer;
                Night night = new Night(way);
                if (seen.stream().allMatch(s ->
                        night.sides.get(Math.min(s[1], told.minutes)).get(s[0]) == s[2])) {
                    fitting.add(100 * first + every);
                }
            }
        }
        return what == 0 ? fitting.size() : fitting.isEmpty() ? -1 : fitting.get(0);
    }

    int without(int sleeper) {
        person(sleeper);
        Night with = new Night(now);
        Way way = now.copy();
        way.order.remove((Integer) sleeper);
        way.free = isFree(way.order);
        if (way.sayer == sleeper) {
            way.sayer = -1;
            way.every = 0;
        }
        return with.all() - with.woken.get(sleeper) - new Night(way).all();
    }

    int year(int seed, int n, int what) {
        among(what, 3);
        argument(n >= 0 && n <= 40);
        List<Integer> nights = new ArrayList<>();
        int[] drawn = {seed};
        for (int i = 0; i < n; i++) {
            Way way = now.copy();
            for (int s = 0; s < told.people.size(); s++) {
                if (!told.people.get(s).isDog()) {
                    boolean must = draw(drawn, 10) < told.people.get(s).tenths();
                    way.outs.put(s, must ? 1 + draw(drawn, told.minutes) : 0);
                }
            }
            nights.add(new Night(way).all());
        }
        return switch (what) {
            case 0 -> nights.stream().mapToInt(w -> w).sum();
            case 1 -> nights.stream().mapToInt(w -> w).max().orElse(0);
            default -> (int) nights.stream().filter(w -> w == 0).count();
        };
    }

    private static int draw(int[] seed, int n) {
        seed[0] = (int) (seed[0] * 1103515245L + 12345L);
        String bits = String.format("%32s", Integer.toBinaryString(seed[0])).replace(' ', '0');
        return Integer.parseInt(bits.substring(1, 16), 2) % n;
    }

    void image() {
        Way way = now.copy();
        List<Runnable> keptActs = List.copyOf(acts);
        List<int[]> keptSeen = List.copyOf(seen);
        int[] keptRefused = refused.clone();
        image = () -> {
            now = way.copy();
            acts = new ArrayList<>(keptActs);
            seen = new ArrayList<>(keptSeen);
            refused = keptRefused.clone();
        };
    }

    boolean restore() {
        if (image == null) {
            return false;
        }
        image.run();
        return true;
    }
}
