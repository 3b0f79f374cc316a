import java.lang.reflect.Field;
import java.lang.reflect.Method;
import java.lang.reflect.Modifier;
import java.util.Arrays;
import java.util.TreeSet;

/**
 * "The public face": each method with its types and the exceptions that it names, and nothing else that can be seen.
 */
public final class FaceTest {
    private static final Check CHECK = new Check();
    private static final String MISSING = "NoSuchElementException";
    private static final String ARGUMENT = "IllegalArgumentException";
    private static final String STATE = "IllegalStateException";
    private static final String INDEX = "IndexOutOfBoundsException";
    private static final String NUMBER = "ArithmeticException";
    private static final String UNSUPPORTED = "UnsupportedOperationException";
    private static final String[] FACE = {
        line("int named(int, boolean)", MISSING, ARGUMENT, STATE), line("int ofInt(int)", STATE),
        line("int box(int)", MISSING, ARGUMENT, STATE), line("int boxBelow(int)", MISSING, ARGUMENT, STATE),
        line("int union(int, int)", MISSING, ARGUMENT, STATE), line("int types()"),
        line("boolean isBelow(int, int)", MISSING), line("boolean meet(int, int)", MISSING),
        line("int node(char, int, int, int)", ARGUMENT, MISSING, STATE),
        line("int prepare(int, int, int, int)", ARGUMENT, MISSING, STATE), line("int define(int)", MISSING, STATE),
        line("int takeAway(int)", MISSING, STATE), line("int age()"),
        line("boolean isThere(int, int)", MISSING, ARGUMENT),
        line("int chosen(int, int, int, int)", ARGUMENT, MISSING, UNSUPPORTED), line("int unclear(int)", ARGUMENT),
        line("int infer(int, int, int)", ARGUMENT, MISSING, UNSUPPORTED),
        line("char run(int, int, int, int, boolean)", ARGUMENT), line("int result()", MISSING),
        line("int resultType()", MISSING, STATE), line("int lookups()"), line("int taken()"), line("int steps()"),
        line("long allSteps()"), line("int codes()"), line("int stale()"), line("int edges(int)", INDEX),
        line("int fixed(int)", INDEX), line("int methodOf(int)", INDEX),
        line("int trim(int, int, int)", ARGUMENT, MISSING, UNSUPPORTED),
        line("boolean isSame(int, int, int, int)", ARGUMENT), line("float fixedShare()", NUMBER),
        line("double meanEdges()", NUMBER)};

    public static void main(String[] args) {
        Class<Worldage> face = Worldage.class;
        CHECK.due("public and final", Modifier.PUBLIC | Modifier.FINAL, face.getModifiers());
        CHECK.due("constructors", 1, face.getDeclaredConstructors().length);
        CHECK.due("a public one without parameters", 1, face.getConstructors()[0].getParameterCount() + 1);
        for (Field field : face.getDeclaredFields()) {
            CHECK.due("field " + field.getName() + " is private", true, Modifier.isPrivate(field.getModifiers()));
        }
        TreeSet<String> lines = new TreeSet<>();
        TreeSet<String> names = new TreeSet<>();
        for (Method method : face.getDeclaredMethods()) {
            if (!Modifier.isPrivate(method.getModifiers())) {
                lines.add(lineOf(method));
                names.add(method.getName());
                CHECK.due(method.getName() + " is public alone", Modifier.PUBLIC, method.getModifiers());
            }
        }
        TreeSet<String> due = new TreeSet<>(Arrays.asList(FACE));
        CHECK.due("methods", 33, FACE.length);
        CHECK.dueText("the face", String.join("\n", due), String.join("\n", lines));
        for (Method method : face.getDeclaredMethods()) {
            CHECK.due("no private method is named " + method.getName(), false,
                    Modifier.isPrivate(method.getModifiers()) && names.contains(method.getName()));
        }
        for (Class<?> within : face.getDeclaredClasses()) {
            CHECK.due(within.getSimpleName() + " is private and static", Modifier.PRIVATE | Modifier.STATIC,
                    within.getModifiers() & (Modifier.PRIVATE | Modifier.STATIC));
            for (Method method : within.getDeclaredMethods()) {
                CHECK.due(within.getSimpleName() + "." + method.getName() + " has a name of its own", false,
                        names.contains(method.getName()));
                CHECK.due(method.getName() + " has at most seven parameters", true, method.getParameterCount() <= 7);
            }
        }
        CHECK.due("classes", true, face.getDeclaredClasses().length <= 12);
        CHECK.end();
    }

    private static String line(String head, String... exceptions) {
        return head + " " + Arrays.toString(exceptions);
    }

    private static String lineOf(Method method) {
        StringBuilder text = new StringBuilder(method.getReturnType().getName()).append(' ').append(method.getName());
        String between = "(";
        for (Class<?> type : method.getParameterTypes()) {
            text.append(between).append(type.getName());
            between = ", ";
        }
        text.append(method.getParameterCount() == 0 ? "()" : ")");
        String[] exceptions = new String[method.getExceptionTypes().length];
        for (int i = 0; i < exceptions.length; i++) {
            exceptions[i] = method.getExceptionTypes()[i].getSimpleName();
        }
        return line(text.toString(), exceptions);
    }
}
