import java.io.File;
import java.lang.reflect.Method;
import java.lang.reflect.Modifier;
import java.nio.file.Files;
import java.nio.file.Path;
import java.util.ArrayList;
import java.util.List;
import javax.tools.ToolProvider;

/** README.md tells every call and every test, and its examples answer what stands behind them. */
final class ReadmeTest {
    private static final String EXAMPLE = "ReadmeExample";

    private ReadmeTest() {
    }

    static void run(Path readme) throws Exception {
        String page = Files.readString(readme);
        tellsEveryCall(page);
        tellsEveryTest(page);
        List<String> blocks = javaBlocks(page);
        Check.due("blocks of Java", blocks.size(), 2);
        if (blocks.size() == 2) {
            runExample(blocks.get(0), blocks.get(1));
        }
    }

    private static void tellsEveryCall(String page) {
        for (Method method : SpoonRow.class.getDeclaredMethods()) {
            if (Modifier.isPublic(method.getModifiers())) {
                String name = method.getName();
                boolean isTold = page.contains("`" + name + "(") || page.contains("row." + name + "(");
                Check.due("README tells " + name, isTold, true);
            }
        }
    }

    private static void tellsEveryTest(String page) {
        File[] files = new File("src/test/java").listFiles((at, name) -> name.endsWith("Test.java"));
        Check.due("tests are there", files != null && files.length > 0, true);
        if (files != null) {
            for (File file : files) {
                String name = file.getName().replace(".java", "");
                Check.due("README tells " + name, page.contains("| `" + name + "` |"), true);
            }
        }
    }

    private static List<String> javaBlocks(String page) {
        List<String> blocks = new ArrayList<>();
        String[] parts = page.split("```");
        for (int i = 1; i < parts.length; i += 2) {
            if (parts[i].startsWith("java\n")) {
                blocks.add(parts[i].substring("java\n".length()));
            }
        }
        return blocks;
    }

    private static void runExample(String helper, String example) throws Exception {
        Path classes = Path.of(SpoonRow.class.getProtectionDomain().getCodeSource().getLocation().toURI());
        Path file = classes.resolve(EXAMPLE + ".java");
        Files.writeString(file, "import java.util.NoSuchElementException;\nfinal class " + EXAMPLE + " {\n"
                + helper + "static void run() {\n" + checked(example) + "}\n}\n");
        int failed = ToolProvider.getSystemJavaCompiler().run(null, null, null,
                "-cp", classes.toString(), "-d", classes.toString(), file.toString());
        Check.due("README's example compiles", failed, 0);
        if (failed == 0) {
            Class.forName(EXAMPLE).getDeclaredMethod("run").invoke(null);
        }
    }

    private static String checked(String example) {
        StringBuilder checked = new StringBuilder();
        StringBuilder open = new StringBuilder();
        for (String line : example.split("\n")) {
            int comment = line.indexOf("// ");
            open.append(comment < 0 ? line : line.substring(0, comment).strip());
            if (comment >= 0) {
                String call = open.substring(0, open.length() - 1);
                checked.append(check(call, line.substring(comment + 3).strip())).append('\n');
                open.setLength(0);
            } else if (line.endsWith(";")) {
                checked.append(open).append('\n');
                open.setLength(0);
            }
        }
        Check.due("nothing of the example is left over", open.toString().isBlank(), true);
        return checked.toString();
    }

    private static String check(String call, String due) {
        String name = '"' + call.replace("\"", "'") + '"';
        if (due.endsWith("Exception")) {
            return "Check.throwing(" + name + ", " + due + ".class, () -> " + call + ");";
        }
        return "Check.due(" + name + ", " + call + ", " + due + ");";
    }
}
