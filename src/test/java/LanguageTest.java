import com.sun.source.tree.BinaryTree;
import com.sun.source.tree.BlockTree;
import com.sun.source.tree.ClassTree;
import com.sun.source.tree.CompilationUnitTree;
import com.sun.source.tree.ImportTree;
import com.sun.source.tree.MethodTree;
import com.sun.source.tree.NewClassTree;
import com.sun.source.tree.Tree;
import com.sun.source.tree.TypeCastTree;
import com.sun.source.tree.VariableTree;
import com.sun.source.util.JavacTask;
import com.sun.source.util.SourcePositions;
import com.sun.source.util.TreeScanner;
import com.sun.source.util.Trees;
import java.io.PrintWriter;
import java.io.StringWriter;
import java.nio.file.Files;
import java.nio.file.Path;
import java.util.ArrayList;
import java.util.EnumSet;
import java.util.HashMap;
import java.util.HashSet;
import java.util.List;
import java.util.Map;
import java.util.Set;
import java.util.TreeMap;
import java.util.TreeSet;
import java.util.regex.Matcher;
import java.util.regex.Pattern;
import java.util.spi.ToolProvider;
import java.util.stream.Stream;
import javax.lang.model.element.Modifier;
import javax.tools.JavaCompiler;

/** What of LANGUAGE.md can be counted: kinds of statements, sizes, names, how deep calls go. */
final class LanguageTest extends TreeScanner<Void, Void> {
    private static final EnumSet<Tree.Kind> OUTSIDE = EnumSet.of(Tree.Kind.LAMBDA_EXPRESSION,
            Tree.Kind.MEMBER_REFERENCE, Tree.Kind.TRY, Tree.Kind.SYNCHRONIZED, Tree.Kind.ASSERT,
            Tree.Kind.ANNOTATION, Tree.Kind.INSTANCE_OF);
    private static final Set<String> THROWN = Set.of("IllegalArgumentException", "NoSuchElementException");
    private static final Set<String> LIBRARY = Set.of("java/lang/Math.min", "java/lang/Math.max",
            "java/lang/Math.abs", "java/lang/Integer.bitCount", "java/lang/String.length",
            "java/lang/String.charAt", "java/lang/String.indexOf", "java/lang/Object.<init>",
            "java/lang/IllegalArgumentException.<init>", "java/util/NoSuchElementException.<init>");
    private static final int DEEPEST = 8;

    private final CompilationUnitTree unit;
    private final SourcePositions positions;
    private final Set<String> own = new HashSet<>();
    private final Set<String> publicMethods = new HashSet<>();
    private final List<String> otherMethods = new ArrayList<>();

    private LanguageTest(CompilationUnitTree unit, SourcePositions positions) {
        this.unit = unit;
        this.positions = positions;
    }

    static void run(Path file) throws Exception {
        JavaCompiler compiler = javax.tools.ToolProvider.getSystemJavaCompiler();
        try (var files = compiler.getStandardFileManager(null, null, null)) {
            JavacTask task = (JavacTask) compiler.getTask(null, files, null, null, null,
                    files.getJavaFileObjects(file));
            CompilationUnitTree unit = task.parse().iterator().next();
            new LanguageTest(unit, Trees.instance(task).getSourcePositions()).scanUnit();
        }
        String text = Files.readString(file);
        Check.due("signs 1 to 127", text.chars().allMatch(c -> c == '\n' || c >= 32 && c < 127), true);
        callsGoNotTooDeep();
    }

    private void scanUnit() {
        Check.due("no package", unit.getPackageName() == null, true);
        for (ImportTree tree : unit.getImports()) {
            Check.due("import " + tree, tree.getQualifiedIdentifier().toString()
                    .equals("java.util.NoSuchElementException"), true);
        }
        Check.due("one class", unit.getTypeDecls().size(), 1);
        scan(unit, null);
        Check.due("some twelve classes", own.size() <= 12, true);
        for (String method : otherMethods) {
            Check.due("no other bears a public name: " + method, publicMethods.contains(method), false);
        }
    }

    @Override
    public Void scan(Tree tree, Void nothing) {
        if (tree != null && OUTSIDE.contains(tree.getKind())) {
            Check.tellWrong("outside the language: " + tree);
        }
        return super.scan(tree, nothing);
    }

    @Override
    public Void visitClass(ClassTree tree, Void nothing) {
        own.add(tree.getSimpleName().toString());
        int fields = 0;
        for (Tree member : tree.getMembers()) {
            if (member instanceof VariableTree field) {
                Set<Modifier> flags = field.getModifiers().getFlags();
                fields += flags.contains(Modifier.STATIC) ? 0 : 1;
                boolean isFinal = !flags.contains(Modifier.STATIC) || flags.contains(Modifier.FINAL);
                Check.due("static is final: " + field, isFinal, true);
            }
            if (member instanceof BlockTree) {
                Check.tellWrong("a block of its own: " + member);
            }
        }
        Check.due("fields of " + tree.getSimpleName() + ": " + fields, fields <= 20, true);
        return super.visitClass(tree, nothing);
    }

    @Override
    public Void visitMethod(MethodTree tree, Void nothing) {
        String name = tree.getName().toString();
        if (tree.getModifiers().getFlags().contains(Modifier.PUBLIC)) {
            publicMethods.add(name);
        } else if (!name.equals("<init>")) {
            otherMethods.add(name);
        }
        long lines = line(positions.getEndPosition(unit, tree)) - line(positions.getStartPosition(unit, tree));
        Check.due("lines of " + name + ": " + lines, lines < 60, true);
        Check.due("parameters of " + name, tree.getParameters().size() <= 7, true);
        return super.visitMethod(tree, nothing);
    }

    private long line(long position) {
        return unit.getLineMap().getLineNumber(position);
    }

    @Override
    public Void visitNewClass(NewClassTree tree, Void nothing) {
        String name = tree.getIdentifier().toString();
        Check.due("new " + name, THROWN.contains(name) || List.of("Row", "Pile", "Sleeper", "Bed", "Rule",
                "Tokens", "Reader", "Plan", "State", "Lier", "Night").contains(name), true);
        return super.visitNewClass(tree, nothing);
    }

    @Override
    public Void visitTypeCast(TypeCastTree tree, Void nothing) {
        Check.due("a cast of numbers alone: " + tree, tree.getType().getKind() == Tree.Kind.PRIMITIVE_TYPE, true);
        return super.visitTypeCast(tree, nothing);
    }

    @Override
    public Void visitBinary(BinaryTree tree, Void nothing) {
        boolean joins = tree.getKind() == Tree.Kind.PLUS
                && (tree.getLeftOperand().getKind() == Tree.Kind.STRING_LITERAL
                || tree.getRightOperand().getKind() == Tree.Kind.STRING_LITERAL);
        Check.due("no texts joined: " + tree, joins, false);
        return super.visitBinary(tree, nothing);
    }

    // ---- calls, as the compiled classes make them ----

    private static void callsGoNotTooDeep() throws Exception {
        Map<String, Set<String>> calls = calls();
        for (String method : new TreeSet<>(calls.keySet())) {
            if (method.startsWith("SpoonRow.")) {
                int deep = depth(method, calls, new HashMap<>());
                Check.due(method + " goes " + deep + " deep", deep <= DEEPEST, true);
            }
        }
    }

    private static Map<String, Set<String>> calls() throws Exception {
        Path classes = Path.of(SpoonRow.class.getProtectionDomain().getCodeSource().getLocation().toURI());
        Map<String, Set<String>> calls = new TreeMap<>();
        try (Stream<Path> files = Files.list(classes)) {
            for (Path file : files.filter(f -> f.getFileName().toString().startsWith("SpoonRow")
                    && !f.getFileName().toString().startsWith("SpoonRowRuns")).toList()) {
                String type = file.getFileName().toString().replace(".class", "");
                readCalls(type, disassembled(file), calls);
            }
        }
        return calls;
    }

    private static String disassembled(Path file) {
        StringWriter out = new StringWriter();
        ToolProvider javap = ToolProvider.findFirst("javap").orElseThrow();
        javap.run(new PrintWriter(out), new PrintWriter(out), "-c", "-p", file.toString());
        return out.toString();
    }

    private static void readCalls(String type, String text, Map<String, Set<String>> calls) {
        Pattern declared = Pattern.compile("^  (?:[\\w$\\[\\] ]+ )?([\\w$]+)\\(.*\\).*;$");
        Pattern invoked = Pattern.compile("invoke\\w+ .*// (?:Interface)?Method (?:([\\w$/]+)\\.)?\"?([\\w<>]+)\"?:");
        String method = "";
        for (String line : text.split("\n")) {
            Matcher declares = declared.matcher(line);
            Matcher invokes = invoked.matcher(line);
            if (declares.find()) {
                method = type + "." + (declares.group(1).equals(type) ? "<init>" : declares.group(1));
                calls.put(method, new TreeSet<>());
            } else if (line.contains("invokedynamic")) {
                Check.tellWrong("invokedynamic in " + method);
            } else if (invokes.find()) {
                String called = (invokes.group(1) == null ? type : invokes.group(1)) + "." + invokes.group(2);
                Check.due("from the library: " + called,
                        called.startsWith("SpoonRow") || LIBRARY.contains(called), true);
                if (called.startsWith("SpoonRow")) {
                    calls.get(method).add(called);
                }
            }
        }
    }

    /** How many calls stand open at most, all that call one another counted as one. */
    private static int depth(String method, Map<String, Set<String>> calls, Map<String, Integer> known) {
        Integer before = known.get(method);
        if (before != null) {
            return before;
        }
        Set<String> round = new TreeSet<>();
        round.add(method);
        for (String other : reached(method, calls)) {
            if (reached(other, calls).contains(method)) {
                round.add(other);
            }
        }
        int deepest = 0;
        for (String one : round) {
            for (String called : calls.get(one)) {
                if (!round.contains(called)) {
                    deepest = Math.max(deepest, depth(called, calls, known));
                }
            }
        }
        known.put(method, deepest + 1);
        return deepest + 1;
    }

    private static Set<String> reached(String method, Map<String, Set<String>> calls) {
        Set<String> reached = new TreeSet<>();
        List<String> open = new ArrayList<>(calls.get(method));
        while (!open.isEmpty()) {
            String one = open.remove(open.size() - 1);
            if (reached.add(one)) {
                open.addAll(calls.get(one));
            }
        }
        return reached;
    }
}
