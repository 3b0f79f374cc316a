import java.util.ArrayList;
import java.util.List;
import java.util.NoSuchElementException;

/**
 * The document's terms, "Exceptions", for each promise with a line "Throws": "A method that throws an exception changes
 * nothing. If several exceptions apply, the one that is listed first is thrown."
 */
public final class RefusedTest {
    private static final Check CHECK = new Check();
    private static final int NO = Integer.MIN_VALUE;
    private static final int[] NO_TYPES = {-1, 60, Integer.MAX_VALUE, Integer.MIN_VALUE};
    private static final int[] NO_SECONDS = {-2, 60, Integer.MAX_VALUE, Integer.MIN_VALUE};
    private static final int[] NO_FUNCTIONS = {-1, 6, Integer.MAX_VALUE, Integer.MIN_VALUE};
    private static final int[] NO_NODES = {-1, 120, Integer.MAX_VALUE, Integer.MIN_VALUE};
    private static final int[] NO_METHODS = {-1, 40, Integer.MAX_VALUE, Integer.MIN_VALUE};

    public static void main(String[] args) {
        for (int way = 0; way < 2; way++) {
            Worldage x = way == 0 ? some() : full();
            List<String> before = observed(x);
            if (way == 0) {
                refusedBySome(x);
            } else {
                refusedByFull(x);
            }
            refusedByBoth(x);
            sameAs(before, observed(x));
            List<String> after = continued(x);
            sameAs(continued(way == 0 ? some() : full()), after);
        }
        atTheirLimits();
        lastRuns();
        noCodes();
        CHECK.end();
    }

    private static final Class<? extends RuntimeException> MISSING = NoSuchElementException.class;
    private static final Class<? extends RuntimeException> ARGUMENT = IllegalArgumentException.class;
    private static final Class<? extends RuntimeException> STATE = IllegalStateException.class;
    private static final Class<? extends RuntimeException> INDEX = IndexOutOfBoundsException.class;
    private static final Class<? extends RuntimeException> UNSUPPORTED = UnsupportedOperationException.class;

    /**
     * Types 3 animal, 4 dog, 5 the int 3, 6 to 9 boxes in boxes; 14 nodes, number 9 is 9 deep; 5 methods, number 2 not
     * there; 2 codes.
     */
    private static Worldage some() {
        Worldage x = new Worldage();
        int animal = x.named(0, false);
        x.named(animal, true);
        x.ofInt(3);
        x.box(x.box(x.box(x.box(4))));
        build(x);
        return x;
    }

    /** The same with 60 types, 120 nodes and 40 methods. */
    private static Worldage full() {
        Worldage x = some();
        while (x.types() < 60) {
            x.ofInt(100 + x.types());
        }
        int node = 0;
        while (node < 119) {
            node = x.node('n', 7, 0, 0);
        }
        int method = 0;
        while (method < 39) {
            method = x.prepare(5, 2, -1, 0);
        }
        return x;
    }

    private static void build(Worldage x) {
        int a = x.node('a', 0, 0, 0);
        int call = x.node('c', 1, a, -1);
        int node = x.node('y', call, a, 0);
        int depth = 2;
        while (depth < 9) {
            node = x.node('y', node, a, 0);
            depth++;
        }
        x.define(x.prepare(0, 1, -1, call));
        x.define(x.prepare(1, 0, -1, a));
        x.prepare(1, 5, -1, a);
        x.define(x.prepare(2, 1, -1, x.node('x', x.node('x', x.node('x', a, 0, 0), 0, 0), 0, 0)));
        x.define(x.prepare(3, 0, -1, x.node('l', 0, a, -1)));
        x.run(0, 41, NO, 50, true);
    }

    private static final int DEEP_NODE = 9;

    /** All that can be asked for without a change. */
    private static List<String> observed(Worldage x) {
        List<String> all = new ArrayList<>();
        all.add("types " + x.types() + " age " + x.age() + " codes " + x.codes() + " stale " + x.stale());
        all.add("lookups " + x.lookups() + " taken " + x.taken() + " steps " + x.steps() + " all " + x.allSteps());
        all.add("result " + x.result() + " type " + x.resultType());
        all.add("share " + x.fixedShare() + " mean " + x.meanEdges());
        for (int code = 0; code < x.codes(); code++) {
            all.add("code " + x.edges(code) + " " + x.fixed(code) + " " + x.methodOf(code));
        }
        for (int method = 0; method < 5; method++) {
            all.add("there " + x.isThere(method, x.age()));
        }
        for (int function = 0; function < 6; function++) {
            all.add("unclear " + x.unclear(function) + " chosen " + x.chosen(function, 1, -1, x.age()));
        }
        return all;
    }

    /** What an object answers afterwards, new numbers among it. */
    private static List<String> continued(Worldage x) {
        List<String> all = new ArrayList<>();
        if (x.types() < 60) {
            all.add("type " + x.named(3, true) + " node " + x.node('n', 5, 0, 0) + " method " + x.prepare(4, 4, 4, 1));
            all.add("int " + x.ofInt(77) + " box " + x.box(1) + " union " + x.union(1, 4));
        }
        all.add("infer " + x.infer(0, 1, -1) + " " + x.infer(1, 4, -1) + " trim " + x.trim(0, 1, -1));
        all.add("run " + x.run(0, 5, NO, 50, true) + " " + x.result() + " codes " + x.codes());
        all.add("define " + x.define(2) + " stale " + x.stale() + " take " + x.takeAway(1));
        all.add("run " + x.run(0, 5, NO, 50, true) + " codes " + x.codes() + " stale " + x.stale());
        all.add("same " + x.isSame(0, 3, NO, 50) + " steps " + x.allSteps());
        return all;
    }

    private static void sameAs(List<String> due, List<String> answer) {
        CHECK.due("lines", due.size(), answer.size());
        for (int i = 0; i < due.size() && i < answer.size(); i++) {
            CHECK.dueText("line " + i, due.get(i), answer.get(i));
        }
    }

    private static void refused(String what, Class<? extends RuntimeException> due, Check.Call call) {
        CHECK.throwing(what, due, call);
    }

    /** Where there is room for more: each reason alone, and the one that is listed first with those behind it. */
    private static void refusedBySome(Worldage x) {
        int types = x.types();
        refused("named, next type", MISSING, () -> x.named(types, true));
        refused("box, next type", MISSING, () -> x.box(types));
        refused("boxBelow, next type", MISSING, () -> x.boxBelow(types));
        refused("union, next type first", MISSING, () -> x.union(types, 1));
        refused("union, next type second", MISSING, () -> x.union(1, types));
        refused("isBelow, next type", MISSING, () -> x.isBelow(types, 1));
        refused("meet, next type", MISSING, () -> x.meet(1, types));
        refused("prepare, next type first", MISSING, () -> x.prepare(0, types, -1, 0));
        refused("prepare, next type second", MISSING, () -> x.prepare(0, 1, types, 0));
        refused("infer, next type", MISSING, () -> x.infer(0, types, -1));
        refused("trim, next type second", MISSING, () -> x.trim(0, 1, types));
        refused("chosen, next type", MISSING, () -> x.chosen(0, types, -1, 0));
        refused("node of the next type", ARGUMENT, () -> x.node('o', types, 0, 0));
        refused("next node", MISSING, () -> x.node('x', 14, 0, 0));
        refused("next node as body", MISSING, () -> x.prepare(0, 1, -1, 14));
        refused("node too deep", STATE, () -> x.node('x', DEEP_NODE, 0, 0));
        refused("next method", MISSING, () -> x.define(5));
        refused("next method", MISSING, () -> x.takeAway(5));
        refused("next method", MISSING, () -> x.isThere(5, 0));
    }

    /** Where there is room for none: this is listed last, so that each other reason is told. */
    private static void refusedByFull(Worldage x) {
        refused("named", STATE, () -> x.named(0, true));
        refused("ofInt", STATE, () -> x.ofInt(99));
        refused("box", STATE, () -> x.box(1));
        refused("boxBelow", STATE, () -> x.boxBelow(1));
        refused("union", STATE, () -> x.union(1, 1));
        refused("node", STATE, () -> x.node('n', 0, 0, 0));
        refused("prepare", STATE, () -> x.prepare(0, 1, -1, 0));
        refused("infer", UNSUPPORTED, () -> x.infer(2, 1, -1));
        refused("node without a type", STATE, () -> x.node('o', 4, 0, 0));
        refused("node too deep", STATE, () -> x.node('x', DEEP_NODE, 0, 0));
    }

    private static void refusedByBoth(Worldage x) {
        for (int type : NO_TYPES) {
            noType(x, type);
        }
        for (int second : NO_SECONDS) {
            refused("prepare", MISSING, () -> x.prepare(0, 1, second, 0));
            refused("prepare, no node either", MISSING, () -> x.prepare(0, 1, second, 120));
            refused("chosen", MISSING, () -> x.chosen(0, 1, second, 0));
            refused("chosen, first not of values", MISSING, () -> x.chosen(0, 0, second, 0));
            refused("infer", MISSING, () -> x.infer(0, 1, second));
            refused("trim", MISSING, () -> x.trim(5, 1, second));
        }
        for (int function : NO_FUNCTIONS) {
            noFunction(x, function);
        }
        for (int node : NO_NODES) {
            noNode(x, node);
        }
        for (int method : NO_METHODS) {
            refused("define", MISSING, () -> x.define(method));
            refused("takeAway", MISSING, () -> x.takeAway(method));
            refused("isThere", MISSING, () -> x.isThere(method, 0));
            refused("isThere, no age either", MISSING, () -> x.isThere(method, -1));
            refused("node d", ARGUMENT, () -> x.node('d', method, 0, 0));
        }
        for (int index : new int[] {-1, x.codes(), 60, Integer.MAX_VALUE, Integer.MIN_VALUE}) {
            refused("edges", INDEX, () -> x.edges(index));
            refused("fixed", INDEX, () -> x.fixed(index));
            refused("methodOf", INDEX, () -> x.methodOf(index));
        }
        tooDeep(x);
        agesAndSteps(x);
        refused("define what is there", STATE, () -> x.define(0));
        refused("take away what is not", STATE, () -> x.takeAway(2));
        refused("trim, none fixed", UNSUPPORTED, () -> x.trim(5, 1, -1));
        refused("trim, a node l", UNSUPPORTED, () -> x.trim(3, 1, -1));
    }

    private static void noType(Worldage x, int type) {
        refused("named", MISSING, () -> x.named(type, true));
        refused("box", MISSING, () -> x.box(type));
        refused("boxBelow", MISSING, () -> x.boxBelow(type));
        refused("union, first", MISSING, () -> x.union(type, 1));
        refused("union, second", MISSING, () -> x.union(1, type));
        refused("union, first, too deep", MISSING, () -> x.union(type, 9));
        refused("union, second, too deep", MISSING, () -> x.union(9, type));
        refused("isBelow, first", MISSING, () -> x.isBelow(type, 1));
        refused("isBelow, second", MISSING, () -> x.isBelow(1, type));
        refused("isBelow, the same", MISSING, () -> x.isBelow(type, type));
        refused("meet, first", MISSING, () -> x.meet(type, 1));
        refused("meet, second", MISSING, () -> x.meet(1, type));
        refused("meet, with 2", MISSING, () -> x.meet(2, type));
        refused("node o", ARGUMENT, () -> x.node('o', type, 0, 0));
        refused("node o, no node either", ARGUMENT, () -> x.node('o', type, 120, 0));
        refused("prepare", MISSING, () -> x.prepare(0, type, -1, 0));
        refused("chosen", MISSING, () -> x.chosen(0, type, -1, 0));
        refused("chosen, second not of values", MISSING, () -> x.chosen(0, type, 0, 0));
        refused("infer", MISSING, () -> x.infer(0, type, -1));
        refused("trim", MISSING, () -> x.trim(5, type, -1));
        refused("trim, with 2", MISSING, () -> x.trim(5, type, 2));
    }

    private static void noFunction(Worldage x, int function) {
        refused("node c", ARGUMENT, () -> x.node('c', function, 0, -1));
        refused("node l, no node either", ARGUMENT, () -> x.node('l', function, 120, -1));
        refused("prepare", ARGUMENT, () -> x.prepare(function, 1, -1, 0));
        refused("prepare, nothing is right", ARGUMENT, () -> x.prepare(function, 60, 60, 120));
        refused("chosen", ARGUMENT, () -> x.chosen(function, 1, -1, 0));
        refused("chosen, no type either", ARGUMENT, () -> x.chosen(function, 60, -1, 0));
        refused("unclear", ARGUMENT, () -> x.unclear(function));
        refused("infer", ARGUMENT, () -> x.infer(function, 1, -1));
        refused("infer, no type either", ARGUMENT, () -> x.infer(function, 60, -1));
        refused("run", ARGUMENT, () -> x.run(function, 1, NO, 9, true));
        refused("trim", ARGUMENT, () -> x.trim(function, 1, -1));
        refused("trim, no type either", ARGUMENT, () -> x.trim(function, 60, -1));
        refused("isSame", ARGUMENT, () -> x.isSame(function, 1, NO, 9));
    }

    private static void noNode(Worldage x, int node) {
        for (char kind : "+-*<?fxuty".toCharArray()) {
            refused(kind + ", first", MISSING, () -> x.node(kind, node, 0, 0));
            refused(kind + ", first, another too deep", MISSING, () -> x.node(kind, node, DEEP_NODE, DEEP_NODE));
        }
        for (char kind : "+-*<?y".toCharArray()) {
            refused(kind + ", second", MISSING, () -> x.node(kind, 0, node, 0));
            refused(kind + ", second, the first too deep", MISSING, () -> x.node(kind, DEEP_NODE, node, 0));
        }
        refused("?, third", MISSING, () -> x.node('?', 0, 0, node));
        refused("c", MISSING, () -> x.node('c', 0, node, -1));
        refused("l", MISSING, () -> x.node('l', 0, node, -1));
        refused("o", MISSING, () -> x.node('o', 4, node, 0));
        refused("o of no concrete type", ARGUMENT, () -> x.node('o', 3, node, 0));
        refused("no kind", ARGUMENT, () -> x.node('b', node, node, node));
        if (node != -1) {
            refused("c, second", MISSING, () -> x.node('c', 0, 0, node));
            refused("l, second", MISSING, () -> x.node('l', 0, DEEP_NODE, node));
        }
        refused("c of no function", ARGUMENT, () -> x.node('c', 6, 0, node));
        refused("body", MISSING, () -> x.prepare(0, 1, -1, node));
    }

    /** Type 9 is 4 deep. */
    private static void tooDeep(Worldage x) {
        refused("box", ARGUMENT, () -> x.box(9));
        refused("boxBelow", ARGUMENT, () -> x.boxBelow(9));
        refused("union, first", ARGUMENT, () -> x.union(9, 1));
        refused("union, second", ARGUMENT, () -> x.union(1, 9));
        for (int parent : new int[] {1, 2, 4, 5, 6}) {
            refused("named", ARGUMENT, () -> x.named(parent, true));
        }
        for (int type : new int[] {0, 1, 2, 3, 5, 6}) {
            refused("node o of " + type, ARGUMENT, () -> x.node('o', type, 0, 0));
        }
        for (int argument : new int[] {-1, 2, Integer.MAX_VALUE, Integer.MIN_VALUE}) {
            refused("node a of " + argument, ARGUMENT, () -> x.node('a', argument, 0, 0));
        }
    }

    private static void agesAndSteps(Worldage x) {
        for (int age : new int[] {-1, x.age() + 1, Integer.MAX_VALUE, Integer.MIN_VALUE}) {
            refused("isThere", ARGUMENT, () -> x.isThere(0, age));
            refused("chosen", ARGUMENT, () -> x.chosen(0, 1, -1, age));
            refused("chosen, no type either", ARGUMENT, () -> x.chosen(0, 60, -1, age));
            refused("chosen, not of values", ARGUMENT, () -> x.chosen(0, 0, -1, age));
        }
        for (int type : new int[] {0, 2, 3, 5}) {
            refused("chosen, not of values", UNSUPPORTED, () -> x.chosen(0, type, -1, 0));
            refused("chosen, second not of values", UNSUPPORTED, () -> x.chosen(0, 1, type, 0));
        }
        for (int steps : new int[] {0, -1, 1001, Integer.MAX_VALUE, Integer.MIN_VALUE}) {
            refused("run", ARGUMENT, () -> x.run(0, 1, NO, steps, true));
            refused("run without code", ARGUMENT, () -> x.run(0, 1, NO, steps, false));
            refused("isSame", ARGUMENT, () -> x.isSame(0, 1, NO, steps));
        }
    }

    /** What is just not refused. */
    private static void atTheirLimits() {
        Worldage x = full();
        CHECK.due("the last type", true, x.isBelow(59, 59));
        CHECK.due("infer with the last type", 2, x.infer(5, 59, 59));
        CHECK.due("the last method", x.age() + 1, x.define(39));
        CHECK.due("is there", true, x.isThere(39, x.age()));
        CHECK.due("not at the first age", false, x.isThere(39, 0));
        CHECK.due("chosen at the first age", -1, x.chosen(5, 4, -1, 0));
        CHECK.due("a type of values 4 deep", -1, x.chosen(5, 9, 9, x.age()));
        CHECK.due("the last function", 'n', x.run(5, 1, NO, 1, true));
        CHECK.due("the last function, the most steps", 'n', x.run(5, 1, NO, 1000, true));
        CHECK.due("isSame with one step", true, x.isSame(5, 1, NO, 1));
        CHECK.due("isSame with the most", true, x.isSame(0, 1, NO, 1000));
        CHECK.due("trim with 2, 0 methods", 0, x.trim(5, 2, -1));
        CHECK.due("the last code", -1, x.methodOf(x.codes() - 1));
        Worldage y = some();
        CHECK.due("the deepest node as body", 5, y.prepare(0, 1, -1, DEEP_NODE));
        CHECK.due("a node beside it", 14, y.node('n', DEEP_NODE, DEEP_NODE, DEEP_NODE));
        CHECK.due("the last method of all", 15, y.node('d', 39, 0, 0));
    }

    /** result and resultType: by how the last run ended; types that are too many. */
    private static void lastRuns() {
        Worldage x = new Worldage();
        refused("result, no run", MISSING, x::result);
        refused("resultType, no run", MISSING, x::resultType);
        int a = x.node('a', 0, 0, 0);
        int dog = x.named(0, true);
        int box = x.node('x', x.node('x', a, 0, 0), 0, 0);
        x.define(x.prepare(0, 1, -1, a));
        x.define(x.prepare(1, 1, -1, x.node('t', a, 0, 0)));
        x.define(x.prepare(2, 1, -1, x.node('u', a, 0, 0)));
        x.define(x.prepare(3, x.union(1, dog), -1, a));
        x.define(x.prepare(3, x.union(dog, 1), -1, a));
        x.define(x.prepare(4, 1, -1, box));
        char[] ends = {'v', 't', 'e', 'a', 'v', 'n'};
        for (int function = 0; function < 6; function++) {
            CHECK.due("function " + function, ends[function], x.run(function, 8, NO, 9, false));
            if (ends[function] == 'v' || ends[function] == 't') {
                CHECK.due("result", 8, x.result());
            } else {
                refused("result", MISSING, x::result);
            }
            if (ends[function] == 'v') {
                CHECK.due("type", function == 0 ? 1 : x.types() + 1, x.resultType());
            } else {
                refused("resultType", MISSING, x::resultType);
            }
        }
        CHECK.due("too few steps", 's', x.run(4, 8, NO, 2, false));
        refused("result", MISSING, x::result);
        refused("resultType", MISSING, x::resultType);
        tooManyTypes();
    }

    private static void tooManyTypes() {
        Worldage x = new Worldage();
        int a = x.node('a', 0, 0, 0);
        x.define(x.prepare(0, 1, -1, x.node('x', x.node('x', a, 0, 0), 0, 0)));
        x.define(x.prepare(1, 1, -1, x.node('t', a, 0, 0)));
        while (x.types() < 59) {
            x.ofInt(x.types());
        }
        CHECK.due("run", 'v', x.run(0, 8, NO, 9, false));
        refused("one number for two types", STATE, x::resultType);
        CHECK.due("types", 59, x.types());
        CHECK.due("the int is told", 8, x.result());
        CHECK.due("one type", 59, x.box(1));
        refused("no number for one type", STATE, x::resultType);
        CHECK.due("thrown", 't', x.run(1, 8, NO, 9, false));
        refused("that there is no value is told first", MISSING, x::resultType);
        Worldage y = new Worldage();
        y.define(y.prepare(0, 1, -1, y.node('x', y.node('x', y.node('a', 0, 0, 0), 0, 0), 0, 0)));
        while (y.types() < 58) {
            y.ofInt(y.types());
        }
        CHECK.due("run", 'v', y.run(0, 8, NO, 9, false));
        CHECK.due("two numbers for two types", 59, y.resultType());
        CHECK.due("again", 59, y.resultType());
    }

    /** fixedShare and meanEdges: without codes, and with codes without nodes c. */
    private static void noCodes() {
        Worldage x = new Worldage();
        refused("fixedShare, no codes", ArithmeticException.class, x::fixedShare);
        refused("meanEdges, no codes", ArithmeticException.class, x::meanEdges);
        refused("edges", INDEX, () -> x.edges(0));
        refused("fixed", INDEX, () -> x.fixed(0));
        refused("methodOf", INDEX, () -> x.methodOf(0));
        int a = x.node('a', 0, 0, 0);
        int call = x.node('c', 1, a, -1);
        x.run(0, 1, NO, 9, true);
        refused("no nodes c", ArithmeticException.class, x::fixedShare);
        CHECK.dueDouble("one edge", 1.0, x.meanEdges());
        x.define(x.prepare(0, 1, -1, call));
        x.run(0, 1, NO, 9, true);
        CHECK.dueDouble("none of one is fixed", 0.0, x.fixedShare());
        CHECK.dueDouble("edges of three", (double) 4 / (double) 3, x.meanEdges());
        x.define(x.prepare(0, x.ofInt(3), -1, call));
        x.run(0, 1, NO, 9, true);
        CHECK.dueDouble("a code without a method has no nodes", 0.0, x.fixedShare());
        x.define(x.prepare(1, 1, -1, a));
        x.takeAway(1);
        x.run(0, 1, NO, 9, true);
        CHECK.dueDouble("one of two", 0.5, x.fixedShare());
    }
}
