import java.lang.reflect.InvocationTargetException;
import java.lang.reflect.Method;
import java.lang.reflect.Modifier;
import java.util.HashMap;
import java.util.Map;
import java.util.Set;

/**
 * "With code or without, each call does what choosing by its age does": calls that were told with their answers are
 * done again on a new object, whose runs use no code. All that does not tell of code itself is to be the same.
 */
final class Replay {
    /** What tells of code, and trim, which does not depend on it and can take long. */
    private static final Set<String> LEFT_OUT = Set.of("lookups", "taken", "codes", "stale", "edges", "fixed",
            "methodOf", "fixedShare", "meanEdges", "trim");
    private static final Map<String, Method> FACE = new HashMap<>();

    static {
        for (Method method : Worldage.class.getDeclaredMethods()) {
            if (Modifier.isPublic(method.getModifiers())) {
                FACE.put(method.getName(), method);
            }
        }
    }

    private Replay() {
    }

    /** Returns the first line, as "name(arguments) -> answer", that is answered otherwise without code; null if none is. */
    static String firstOther(String told) {
        Worldage x = new Worldage();
        for (String line : told.split("\n")) {
            int arrow = line.lastIndexOf(" -> ");
            int bracket = line.indexOf('(');
            Method method = arrow < 0 || bracket < 0 ? null : FACE.get(line.substring(0, bracket));
            if (method == null || LEFT_OUT.contains(method.getName())) {
                continue;
            }
            Object[] arguments = argumentsOf(method, line.substring(bracket + 1, arrow - 1));
            if (arguments != null) {
                String answer = answerOf(x, method, arguments);
                if (!answer.equals(line.substring(arrow + 4))) {
                    return line + ", without code " + answer;
                }
            }
        }
        return null;
    }

    /** Returns null for a node of a sign that can't be read, which is none that there is. */
    private static Object[] argumentsOf(Method method, String text) {
        Class<?>[] types = method.getParameterTypes();
        boolean isNode = types.length > 0 && types[0] == char.class;
        if (isNode && !text.matches("'[a-z+*<?-]',.*")) {
            return null;
        }
        String[] parts = text.split(",");
        Object[] arguments = new Object[types.length];
        for (int i = 0; i < types.length; i++) {
            if (types[i] == char.class) {
                arguments[i] = text.charAt(1);
            } else if (types[i] == boolean.class) {
                arguments[i] = !method.getName().equals("run") && Boolean.parseBoolean(parts[i]);
            } else {
                arguments[i] = parts[i].equals("none") ? Integer.MIN_VALUE : Integer.parseInt(parts[i]);
            }
        }
        return arguments;
    }

    private static String answerOf(Worldage x, Method method, Object[] arguments) {
        try {
            Object answer = method.invoke(x, arguments);
            if (answer instanceof Boolean is) {
                return is ? "1" : "0";
            }
            return answer instanceof Character sign ? Integer.toString(sign) : answer.toString();
        } catch (InvocationTargetException e) {
            return "throws." + e.getCause().getClass().getSimpleName();
        } catch (IllegalAccessException e) {
            throw new IllegalStateException(e);
        }
    }
}
