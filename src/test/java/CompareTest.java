import java.util.ArrayList;
import java.util.List;
import java.util.Random;
import java.util.function.IntSupplier;

/** Many runs of calls drawn by a seed, each call answered by the class and by the model. */
final class CompareTest {
    private static final int RUNS = 700;
    private static final int DEAR_RUNS = 300;
    private static final int ACT_RUNS = 60;
    private static final int TEXTS = 40000;
    private static final String[] VALUES = {"light", "off", "turns", "hour", "snore", "edge", "woken"};
    private static final String[] TOKENS = {"sleeper", "child", "snorer", "dog", "bed", "night", "awake",
        "bolster", "never", "wakes", "or", "and", "not", "light", "off", "turns", "woken", "foo", "x",
        ";", "(", ")", "+", "-", "*", "/", "<", "=", "0", "1", "2", "3", "5", "6", "7", "9", "10", "60",
        "240", "241", "600", "601", "9999", "12345", "00001", "99999999999", "0007", "A", "[", "\t", "\n",
        "\u00e9", ">", "_", "\u0000"};

    private final Random random;
    private final SpoonRow row = new SpoonRow();
    private final Model model = new Model();
    private final List<String> story = new ArrayList<>();
    private int sleepers = 0;

    private CompareTest(long seed) {
        random = new Random(seed);
    }

    static void run() {
        for (int i = 0; i < RUNS; i++) {
            new CompareTest(i).oneRun(60, false);
        }
        for (int i = 0; i < DEAR_RUNS; i++) {
            new CompareTest(1000000 + i).oneRun(25, true);
        }
        for (int i = 0; i < TEXTS; i++) {
            new CompareTest(2000000 + i).oneText();
        }
        new CompareTest(4000000).oneExtremeRun();
        for (int i = 0; i < ACT_RUNS; i++) {
            new CompareTest(3000000 + i).oneRunOfActs();
        }
    }

    private int below(int n) {
        return random.nextInt(n);
    }

    private void oneRun(int calls, boolean isDear) {
        tell(text(isDear ? 6 : 7));
        for (int i = 0; i < calls; i++) {
            if (below(40) == 0) {
                tell(random.nextBoolean() ? text(isDear ? 6 : 7) : spoiled(text(7)));
            } else {
                call(isDear);
            }
        }
    }

    /** So many acts that the oldest ones are dropped, and so many undone that none is left. */
    private void oneRunOfActs() {
        tell(text(7));
        for (int i = 0; i < 400; i++) {
            int kind = below(i % 200 < 120 ? 5 : 8);
            act(kind > 5 && below(3) > 0 ? 5 : kind);
            ask(below(10) == 0 ? 18 : 8);
        }
    }

    /** Every call with numbers far out of all bounds, and with some at them. */
    private void oneExtremeRun() {
        tell("sleeper 9 8 7 6 5 4;dog 1;child 3 4 5 6 7 8;");
        int[] ends = {Integer.MIN_VALUE, -65, -1, 0, 1, 2, 3, 6, 7, 31, 32, 64, 601, 1 << 30, Integer.MAX_VALUE};
        for (int a : ends) {
            same("bed " + a, () -> row.bed(a), () -> model.bed(a));
            tell("sleeper 9 8 7 6 5 4;dog 1;child 3 4 5 6 7 8;");
            askOfOne(a);
            for (int b : ends) {
                askOfTwo(a, b);
                for (int c : ends) {
                    same("lies " + a + " " + b + " " + c, () -> row.lies(a, b, c), () -> model.lies(a, b, c));
                    same("see " + a + " " + b + " " + c, () -> row.see(a, b, c), () -> model.see(a, b, c));
                    same("forget", row::forget, model::forget);
                    int n = b > 1 && b <= 40 ? 1 : b;
                    same("year " + a + " " + n + " " + c, () -> row.year(a, n, c), () -> model.year(a, n, c));
                }
            }
        }
    }

    private void askOfOne(int a) {
        count(a);
        same("side " + a, () -> row.side(a), () -> model.side(a));
        same("night " + a, () -> row.night(a), () -> model.night(a));
        same("kept " + a, () -> row.kept(a), () -> model.kept(a));
        same("bolsters " + a, () -> row.bolsters(a), () -> model.bolsters(a));
        same("free " + a, () -> row.free(a), () -> model.free(a));
        same("outs " + a, () -> row.outs(a), () -> model.outs(a));
        same("fits " + a, () -> row.fits(a), () -> model.fits(a));
        same("without " + a, () -> row.without(a), () -> model.without(a));
    }

    private void askOfTwo(int a, int b) {
        same("sleeper " + a + " " + b, () -> row.sleeper(a, b), () -> model.sleeper(a, b));
        same("swap " + a + " " + b, () -> bit(row.swap(a, b)), () -> bit(model.swap(a, b)));
        same("word " + a + " " + b, () -> row.word(a, b), () -> model.word(a, b));
        same("bolster " + a, () -> bit(row.bolster(a, b > 0)), () -> bit(model.bolster(a, b > 0)));
        same("out " + a + " " + b, () -> row.out(a, b), () -> model.out(a, b));
        same("woken " + a + " " + b, () -> row.woken(a, b), () -> model.woken(a, b));
        same("turn " + a + " " + b, () -> row.turn(a, b), () -> model.turn(a, b));
        same("fair " + a + " " + b, () -> row.fair(a, b), () -> model.fair(a, b));
        if (a < 2 || b < 0) {
            same("every " + a + " " + b, () -> row.every(a, b), () -> model.every(a, b));
        }
    }

    private void oneText() {
        String text = text(7);
        tell(below(5) == 0 ? text : spoiled(text));
        if (below(4) == 0) {
            tell(spoiled(text(7)));
        }
        for (int what = 0; what < 17; what++) {
            count(what);
        }
    }

    // ---- texts ----

    private String text(int mostSleepers) {
        List<String> lines = new ArrayList<>();
        int n = below(8) == 0 ? below(2) : 1 + below(mostSleepers);
        for (int i = 0; i < n; i++) {
            lines.add(person());
        }
        int nevers = below(3) == 0 ? below(5) : 0;
        for (int i = 0; i < nevers && n > 1; i++) {
            int one = below(n);
            String line = "never " + one + " " + (one + 1 + below(n - 1)) % n;
            lines.add(line);
        }
        addSome(lines, n);
        StringBuilder text = new StringBuilder();
        for (String line : lines) {
            text.append(line).append(below(3) == 0 ? " ;\n" : ";");
        }
        return text.length() > 600 ? text.substring(0, 600) : text.toString();
    }

    private void addSome(List<String> lines, int n) {
        if (below(3) > 0) {
            lines.add(below(lines.size() + 1), "bed " + (1 + below(below(3) == 0 ? 99 : 25)) + " " + below(10));
        }
        if (below(3) > 0) {
            lines.add(below(lines.size() + 1), "night " + (1 + below(below(2) == 0 ? 600 : 150)));
        }
        if (below(2) > 0) {
            lines.add(below(lines.size() + 1), "awake " + (below(4) == 0 ? 0 : below(61)));
        }
        for (int place = 1; place <= 6; place++) {
            if (below(8) == 0) {
                lines.add(below(lines.size() + 1), "bolster " + place);
            }
        }
        if (below(2) == 0) {
            lines.add(below(lines.size() + 1), "wakes " + expr(below(6)));
        }
    }

    private String person() {
        if (below(7) == 0) {
            return "dog " + (1 + below(9));
        }
        String kind = below(4) == 0 ? "child" : below(3) == 0 ? "snorer" : "sleeper";
        int most = below(4) == 0 ? 5 : below(3) == 0 ? 240 : 60;
        return kind + " " + (1 + below(most)) + " " + (1 + below(most)) + " " + below(below(2) == 0 ? 10 : 4)
                + " " + (1 + below(below(2) == 0 ? 9 : 3)) + " " + (below(2) == 0 ? 0 : below(601))
                + " " + below(11);
    }

    private String expr(int depth) {
        int kind = depth <= 0 ? below(2) : below(12);
        switch (kind) {
            case 0: return "" + below(below(4) == 0 ? 10000 : 8);
            case 1: return VALUES[below(VALUES.length)];
            case 2: return "(" + expr(depth - 1) + ")";
            case 3: return "not " + expr(depth - 1);
            case 4: return expr(depth - 1) + " and " + expr(depth - 1);
            case 5: return expr(depth - 1) + " or " + expr(depth - 1);
            case 6: return expr(depth - 2) + (below(2) == 0 ? "<" : " = ") + expr(depth - 2);
            case 7: return expr(depth - 1) + "-" + expr(depth - 1);
            case 8: return expr(depth - 1) + "+" + expr(depth - 1);
            case 9: return expr(depth - 1) + "/" + expr(depth - 1);
            case 10: return expr(depth - 1) + "*" + expr(depth - 1);
            default: return deep();
        }
    }

    private String deep() {
        StringBuilder deep = new StringBuilder();
        int open = below(8);
        for (int i = 0; i < open; i++) {
            deep.append(below(4) == 0 ? "not (" : "(");
        }
        for (int nots = below(3) == 0 ? below(9) : 0; nots > 0; nots--) {
            deep.append("not ");
        }
        deep.append(VALUES[below(VALUES.length)]);
        for (int i = 0; i < open; i++) {
            deep.append(")");
        }
        return deep.toString();
    }

    private String spoiled(String text) {
        StringBuilder spoiled = new StringBuilder(text);
        for (int times = 1 + below(2); times > 0; times--) {
            String token = TOKENS[below(TOKENS.length)];
            int at = below(spoiled.length() + 1);
            int kind = below(5);
            if (kind == 0) {
                spoiled.setLength(at);
            } else if (kind == 1 && below(2) == 0) {
                List<String> lines = List.of(spoiled.toString().split(";"));
                spoiled.append(lines.get(below(lines.size()))).append(";");
            } else if (kind == 1) {
                spoiled.delete(at, Math.min(spoiled.length(), at + 1 + below(6)));
            } else {
                int from = at;
                while (kind > 2 && from > 0 && " ;()\n".indexOf(spoiled.charAt(from - 1)) < 0) {
                    from--;
                }
                int to = from;
                while (kind > 2 && to < spoiled.length() && " ;()\n".indexOf(spoiled.charAt(to)) < 0) {
                    to++;
                }
                spoiled.replace(from, to, kind == 2 ? " " + token + " " : token);
            }
        }
        return spoiled.length() > 600 ? spoiled.substring(0, 600) : spoiled.toString();
    }

    private void tell(String text) {
        byte[] bytes = text.getBytes(java.nio.charset.StandardCharsets.ISO_8859_1);
        int had = row.count(13);
        if (had + (bytes.length + 19) / 20 * 20 > 600 || had > 0) {
            int n = below(had + 1);
            same("bed(" + n + ")", () -> row.bed(n), () -> model.bed(n));
        }
        for (int i = 0; i < bytes.length; i += 20) {
            feed(Check.number(bytes, i), Check.number(bytes, i + 4), Check.number(bytes, i + 8),
                    Check.number(bytes, i + 12), Check.number(bytes, i + 16));
        }
        same("bed of " + text, () -> row.bed(bytes.length), () -> model.bed(bytes.length));
        same("fault()", row::fault, model::fault);
        sleepers = row.count(0);
    }

    private void feed(int a, int b, int c, int d, int e) {
        same("feed", () -> row.feed(a, b, c, d, e), () -> model.feed(a, b, c, d, e));
    }

    // ---- calls ----

    private int someSleeper() {
        return below(12) == 0 ? below(11) - 2 : below(Math.max(1, sleepers));
    }

    private int some(int n) {
        return below(15) == 0 ? below(n + 6) - 3 : below(n);
    }

    private void call(boolean isDear) {
        int kind = below(isDear ? 26 : 19);
        if (kind < 8) {
            act(kind);
        } else if (kind < 19) {
            ask(kind);
        } else {
            askDearly(kind);
        }
    }

    private void act(int kind) {
        int sleeper = someSleeper();
        int place = some(Math.max(1, sleepers));
        int other = some(Math.max(1, sleepers));
        switch (kind) {
            case 0: same("swap " + place + " " + other, () -> bit(row.swap(place, other)),
                    () -> bit(model.swap(place, other))); break;
            case 1: int side = some(2);
                same("side " + side, () -> row.side(side), () -> model.side(side)); break;
            case 2: int every = below(3) == 0 ? below(246) - 2 : below(40);
                same("word " + sleeper + " " + every, () -> row.word(sleeper, every),
                        () -> model.word(sleeper, every)); break;
            case 3: int where = below(9) - 1;
                boolean put = random.nextBoolean();
                same("bolster " + where + " " + put, () -> bit(row.bolster(where, put)),
                        () -> bit(model.bolster(where, put))); break;
            case 4: int minute = below(5) == 0 ? below(610) - 4 : below(120);
                same("out " + sleeper + " " + minute, () -> row.out(sleeper, minute),
                        () -> model.out(sleeper, minute)); break;
            case 5: same("undo", row::undo, model::undo); break;
            case 6: pictureOrForget(); break;
            default: int when = below(5) == 0 ? below(610) - 4 : below(120);
                int on = some(2);
                same("see " + sleeper + " " + when + " " + on, () -> row.see(sleeper, when, on),
                        () -> model.see(sleeper, when, on)); break;
        }
    }

    private void pictureOrForget() {
        switch (below(4)) {
            case 0: row.image(); model.image(); story.add("image"); break;
            case 1: same("restore", () -> bit(row.restore()), () -> bit(model.restore())); break;
            default: same("forget", row::forget, model::forget); break;
        }
    }

    private static int bit(boolean holds) {
        return holds ? 1 : 0;
    }

    private void count(int what) {
        same("count " + what, () -> row.count(what), () -> model.count(what));
    }

    private void ask(int kind) {
        int sleeper = someSleeper();
        int what2 = some(2);
        switch (kind) {
            case 8: count(some(17)); break;
            case 9: int what = some(9);
                same("sleeper " + sleeper + " " + what, () -> row.sleeper(sleeper, what),
                        () -> model.sleeper(sleeper, what)); break;
            case 10: int part = some(4);
                same("night " + part, () -> row.night(part), () -> model.night(part)); break;
            case 11: same("woken " + sleeper + " " + what2, () -> row.woken(sleeper, what2),
                    () -> model.woken(sleeper, what2)); break;
            case 12: int minute = below(3) == 0 ? below(610) - 4 : below(row.count(3) + 2);
                same("lies " + sleeper + " " + minute + " " + what2, () -> row.lies(sleeper, minute, what2),
                        () -> model.lies(sleeper, minute, what2)); break;
            case 13: int i = below(4) == 0 ? below(1300) - 2 : below(20);
                int of = some(4);
                same("turn " + i + " " + of, () -> row.turn(i, of), () -> model.turn(i, of)); break;
            case 14: same("outs " + what2, () -> row.outs(what2), () -> model.outs(what2)); break;
            case 15: same("without " + sleeper, () -> row.without(sleeper), () -> model.without(sleeper)); break;
            case 16: same("free " + sleeper, () -> row.free(sleeper), () -> model.free(sleeper)); break;
            case 17: int place = some(7);
                same("kept " + place, () -> row.kept(place), () -> model.kept(place)); break;
            default: for (int all = 5; all < 17; all++) {
                count(all);
            }
        }
    }

    private void askDearly(int kind) {
        int sleeper = someSleeper();
        int what2 = some(2);
        switch (kind) {
            case 19: same("orders", row::orders, model::orders); break;
            case 20: same("order", row::order, model::order); keptWhole(); break;
            case 21: same("edge", row::edge, model::edge); keptWhole(); break;
            case 22: same("every " + sleeper + " " + what2, () -> row.every(sleeper, what2),
                    () -> model.every(sleeper, what2)); break;
            case 23: same("bolsters " + what2, () -> row.bolsters(what2), () -> model.bolsters(what2));
                same("fits " + what2, () -> row.fits(what2), () -> model.fits(what2)); break;
            case 24: int n = some(31);
                int who = below(3) == 0 ? -1 : sleeper;
                same("fair " + n + " " + who, () -> row.fair(n, who), () -> model.fair(n, who)); break;
            default: int seed = random.nextInt();
                int nights = some(41);
                int what = some(3);
                same("year " + seed + " " + nights + " " + what, () -> row.year(seed, nights, what),
                        () -> model.year(seed, nights, what)); break;
        }
    }

    private void keptWhole() {
        for (int place = -1; place < 7; place++) {
            int at = place;
            same("kept " + at, () -> row.kept(at), () -> model.kept(at));
        }
    }

    private void same(String call, IntSupplier mine, IntSupplier models) {
        story.add(call);
        String got = answer(mine);
        String want = answer(models);
        if (got.equals(want)) {
            Check.due(call, 0, 0);
        } else {
            Check.tellWrong(String.join(" | ", story) + " answered " + got + ", the model says " + want);
        }
    }

    private static String answer(IntSupplier call) {
        try {
            return "" + call.getAsInt();
        } catch (RuntimeException e) {
            return "throws." + e.getClass().getName();
        }
    }
}
