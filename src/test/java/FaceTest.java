import java.lang.reflect.Constructor;
import java.lang.reflect.Field;
import java.lang.reflect.Method;
import java.lang.reflect.Modifier;
import java.util.Arrays;
import java.util.TreeSet;
import java.util.stream.Collectors;

/** The public face: what the document lists, and nothing else. */
final class FaceTest {
    private static final String[] DUE = {
        "int feed(int,int,int,int,int)", "int bed(int) IllegalArgumentException", "int fault()",
        "int count(int) NoSuchElementException", "int sleeper(int,int) NoSuchElementException",
        "boolean swap(int,int)", "int side(int)", "int word(int,int) NoSuchElementException",
        "boolean bolster(int,boolean)", "int out(int,int) NoSuchElementException", "int undo()",
        "int night(int) NoSuchElementException", "int woken(int,int) NoSuchElementException",
        "int lies(int,int,int) NoSuchElementException IllegalArgumentException",
        "int turn(int,int) NoSuchElementException", "int orders()", "int order()",
        "int kept(int) NoSuchElementException",
        "int every(int,int) NoSuchElementException IllegalArgumentException",
        "int bolsters(int) NoSuchElementException", "int free(int) NoSuchElementException",
        "int outs(int) NoSuchElementException", "int edge()",
        "int fair(int,int) NoSuchElementException IllegalArgumentException",
        "int see(int,int,int) NoSuchElementException", "int forget()",
        "int fits(int) NoSuchElementException", "int without(int) NoSuchElementException",
        "int year(int,int,int) NoSuchElementException IllegalArgumentException", "void image()",
        "boolean restore()"};

    private FaceTest() {
    }

    static void run() {
        TreeSet<String> methods = new TreeSet<>();
        for (Method method : SpoonRow.class.getDeclaredMethods()) {
            if (!Modifier.isPrivate(method.getModifiers())) {
                methods.add(told(method));
                Check.due("public: " + method, method.getModifiers(), Modifier.PUBLIC);
            }
        }
        TreeSet<String> due = new TreeSet<>(Arrays.asList(DUE));
        Check.due("the methods " + methods + " are " + due, methods.equals(due), true);
        for (Field field : SpoonRow.class.getDeclaredFields()) {
            boolean isConstant = field.getName().equals("NONE");
            int modifiers = Modifier.PUBLIC | Modifier.STATIC | Modifier.FINAL;
            Check.due("field " + field, isConstant ? field.getModifiers() == modifiers
                    : Modifier.isPrivate(field.getModifiers()), true);
        }
        Constructor<?>[] constructors = SpoonRow.class.getDeclaredConstructors();
        Check.due("constructors", constructors.length, 1);
        Check.due("public", constructors[0].getModifiers(), Modifier.PUBLIC);
        Check.due("of nothing", constructors[0].getParameterCount(), 0);
        Check.due("class", SpoonRow.class.getModifiers(), Modifier.PUBLIC | Modifier.FINAL);
        for (Class<?> inner : SpoonRow.class.getDeclaredClasses()) {
            Check.due("static, not public: " + inner, (inner.getModifiers()
                    & (Modifier.STATIC | Modifier.PUBLIC | Modifier.PROTECTED)), Modifier.STATIC);
        }
    }

    private static String told(Method method) {
        return method.getReturnType() + " " + method.getName() + "("
                + Arrays.stream(method.getParameterTypes()).map(Class::getName).collect(Collectors.joining(","))
                + ")" + Arrays.stream(method.getExceptionTypes()).map(type -> " " + type.getSimpleName())
                .collect(Collectors.joining());
    }
}
