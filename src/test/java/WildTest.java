import java.lang.reflect.InvocationTargetException;
import java.lang.reflect.Method;
import java.util.ArrayList;
import java.util.HashMap;
import java.util.List;
import java.util.Map;

/**
 * All promises: each call with arguments on both sides of each limit, and far beyond it, for a new object, one with
 * some of all and a full one. It answers as the model does, and throws nothing but what the document's face names.
 */
public final class WildTest {
    private static final Check CHECK = new Check();
    private static final int[] WILD = {Integer.MIN_VALUE, -2, -1, 0, 1, 2, 3, 5, 6, 39, 40, 59, 60, 119, 120, 1000,
        1001, Integer.MAX_VALUE};
    private static final int[] FEWER = {Integer.MIN_VALUE, -2, -1, 0, 1, 4, 5, 6, 40, 60, 120, Integer.MAX_VALUE};
    private static final int CALLS_OF_ONE = 100;
    private static final Map<String, Method> MINE = new HashMap<>();
    private static final Map<String, Method> DUE = new HashMap<>();

    private final int state;
    private Worldage x;
    private Model y;
    private int calls;
    private long answers;

    private WildTest(int state) {
        this.state = state;
    }

    public static void main(String[] args) {
        for (Method method : Worldage.class.getDeclaredMethods()) {
            if (java.lang.reflect.Modifier.isPublic(method.getModifiers())) {
                MINE.put(method.getName(), method);
            }
        }
        for (Method method : Model.class.getDeclaredMethods()) {
            Method mine = MINE.get(method.getName());
            if (mine != null && java.util.Arrays.equals(mine.getParameterTypes(), method.getParameterTypes())) {
                DUE.put(method.getName(), method);
            }
        }
        CHECK.due("methods of the face", 33, MINE.size());
        long answers = 0;
        for (int state = 0; state < 3; state++) {
            WildTest test = new WildTest(state);
            test.all();
            answers += test.answers;
        }
        System.out.println(answers + " answers");
        CHECK.end();
    }

    private void all() {
        calls = CALLS_OF_ONE;
        List<String> names = new ArrayList<>(DUE.keySet());
        java.util.Collections.sort(names);
        for (String name : names) {
            Class<?>[] kinds = MINE.get(name).getParameterTypes();
            each(name, kinds, new Object[kinds.length], 0);
        }
    }

    private void each(String name, Class<?>[] kinds, Object[] arguments, int place) {
        if (place == kinds.length) {
            same(name, arguments);
        } else if (kinds[place] == boolean.class) {
            for (int i = 0; i < 2; i++) {
                arguments[place] = i == 1;
                each(name, kinds, arguments, place + 1);
            }
        } else if (kinds[place] == char.class) {
            for (char kind : "na+-*<?clofxudtyb\0\uffff".toCharArray()) {
                arguments[place] = kind;
                each(name, kinds, arguments, place + 1);
            }
        } else {
            for (int n : kinds.length > 2 ? FEWER : WILD) {
                arguments[place] = n;
                each(name, kinds, arguments, place + 1);
            }
        }
    }

    /** A new pair is made now and then, as an object is used for some calls only. */
    private void same(String name, Object[] arguments) {
        if (calls >= CALLS_OF_ONE) {
            calls = 0;
            x = new Worldage();
            y = new Model();
            prepareState();
        }
        calls++;
        String due = told(DUE.get(name), y, arguments);
        String mine = told(MINE.get(name), x, arguments);
        answers++;
        if (!due.equals(mine)) {
            CHECK.tell("state " + state + ": " + name + java.util.Arrays.toString(arguments) + " due " + due
                    + ", answered " + mine);
        }
        if (mine.startsWith("throws ")) {
            boolean isNamed = false;
            for (Class<?> named : MINE.get(name).getExceptionTypes()) {
                isNamed |= mine.equals("throws " + named.getSimpleName());
            }
            CHECK.due(name + " " + mine + " is named", true, isNamed);
        }
    }

    private static String told(Method method, Object object, Object[] arguments) {
        try {
            return String.valueOf(method.invoke(object, arguments));
        } catch (InvocationTargetException e) {
            return "throws " + e.getCause().getClass().getSimpleName();
        } catch (IllegalAccessException e) {
            return "no access";
        }
    }

    private int both(String name, Object... arguments) {
        String due = told(DUE.get(name), y, arguments);
        String mine = told(MINE.get(name), x, arguments);
        CHECK.dueText("state " + state + ": " + name + java.util.Arrays.toString(arguments), due, mine);
        return due.matches("-?[0-9]+") ? Integer.parseInt(due) : -9;
    }

    private void prepareState() {
        if (state == 0) {
            return;
        }
        both("named", 0, false);
        both("named", 3, true);
        both("ofInt", 5);
        both("box", 4);
        both("union", 1, 4);
        both("boxBelow", 7);
        both("node", 'a', 0, 0, 0);
        both("node", 'a', 1, 0, 0);
        both("node", 'c', 1, 0, -1);
        both("node", '+', 2, 2, 0);
        both("node", 'o', 4, 0, 0);
        int node = both("node", 'y', 3, 4, 0);
        both("prepare", 0, 1, -1, node);
        both("prepare", 1, 0, -1, 0);
        both("prepare", 0, 1, 1, 3);
        both("prepare", 1, 5, -1, 1);
        for (int method = 0; method < 3; method++) {
            both("define", method);
        }
        both("takeAway", 2);
        both("run", 0, 3, Integer.MIN_VALUE, 50, true);
        if (state == 2) {
            fill();
        }
    }

    private void fill() {
        int number = 0;
        while (number < 59) {
            number = both("ofInt", 100 + number);
        }
        number = 0;
        while (number < 119) {
            number = both("node", 'd', 39, 0, 0);
        }
        number = 0;
        while (number < 39) {
            number = both("prepare", 5, 0, -1, 119);
        }
    }
}
