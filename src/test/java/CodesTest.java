/** Promises 26 to 30, 33 and 34: codes, stale, edges, fixed, methodOf, fixedShare, meanEdges. */
public final class CodesTest {
    private static final Check CHECK = new Check();
    private static final int NO = Integer.MIN_VALUE;

    public static void main(String[] args) {
        kinds();
        fixedNodes();
        notFixed();
        edges();
        stale();
        sixty();
        notEnded();
        metWithOthers();
        refused();
        CHECK.end();
    }

    private static void kinds() {
        Worldage x = new Worldage();
        int dog = x.named(0, true);
        int three = x.ofInt(3);
        int a = x.node('a', 0, 0, 0);
        int object = x.node('c', 0, x.node('o', dog, a, 0), -1);
        x.define(x.prepare(0, 0, -1, a));
        x.define(x.prepare(1, 1, -1, object));
        CHECK.due("none without code", 'v', x.run(0, 1, NO, 9, false));
        CHECK.due("codes", 0, x.codes());
        CHECK.due("one", 'v', x.run(0, 1, NO, 9, true));
        CHECK.due("codes", 1, x.codes());
        CHECK.due("method", 0, x.methodOf(0));
        x.run(0, 2, NO, 9, true);
        CHECK.due("the same types", 1, x.codes());
        x.run(1, 2, NO, 9, true);
        CHECK.due("another function and an object", 3, x.codes());
        CHECK.due("method", 1, x.methodOf(1));
        CHECK.due("method for the object", 0, x.methodOf(2));
        x.run(0, 2, 2, 9, true);
        CHECK.due("two arguments", 4, x.codes());
        CHECK.due("no method", -1, x.methodOf(3));
        x.define(x.prepare(0, three, -1, a));
        x.run(0, 2, NO, 9, true);
        CHECK.due("made again", 5, x.codes());
        CHECK.due("not all ints choose the same", -1, x.methodOf(4));
        CHECK.due("the old one is as it was", 0, x.methodOf(0));
        x.run(1, 2, NO, 9, true);
        CHECK.due("3 does not meet dogs", 5, x.codes());
    }

    private static void fixedNodes() {
        Worldage x = new Worldage();
        int dog = x.named(0, true);
        int a = x.node('a', 0, 0, 0);
        int one = x.node('n', 1, 0, 0);
        int object = x.node('o', dog, a, 0);
        int first = x.node('c', 1, a, -1);
        int second = x.node('c', 1, object, -1);
        int third = x.node('c', 2, a, one);
        int fourth = x.node('l', 1, a, -1);
        int sum = x.node('+', x.node('+', first, second, 0), x.node('+', third, first, 0), 0);
        CHECK.throwing("no codes", ArithmeticException.class, x::fixedShare);
        x.define(x.prepare(0, 1, -1, x.node('+', sum, fourth, 0)));
        x.define(x.prepare(1, 1, -1, a));
        x.define(x.prepare(1, dog, -1, one));
        x.define(x.prepare(2, 1, 1, a));
        CHECK.due("run", 'v', x.run(0, 5, NO, 99, true));
        CHECK.due("result", 5 + 1 + 5 + 5 + 5, x.result());
        CHECK.due("c each once, no l", 3, x.fixed(0));
        CHECK.due("codes", 4, x.codes());
        CHECK.due("none in the others", 0, x.fixed(1) + x.fixed(2) + x.fixed(3));
        CHECK.dueDouble("share", 1.0f, x.fixedShare());
        x.define(x.prepare(2, x.ofInt(3), 1, a));
        x.run(0, 5, NO, 99, true);
        CHECK.due("one less is sure", 2, x.fixed(4));
        CHECK.dueDouble("share", (float) 5 / (float) 6, x.fixedShare());
    }

    private static void notFixed() {
        Worldage x = new Worldage();
        int dog = x.named(0, true);
        int a = x.node('a', 0, 0, 0);
        int one = x.node('n', 1, 0, 0);
        int zero = x.node('n', 0, 0, 0);
        int thrown = x.node('t', one, 0, 0);
        int withNothing = x.node('c', 1, thrown, -1);
        int notReached = x.node('c', 1, one, -1);
        int noMethod = x.node('c', 3, a, -1);
        int body = x.node('y', withNothing, x.node('?', zero, notReached, x.node('?', zero, noMethod, one)), 0);
        x.define(x.prepare(0, 1, -1, body));
        x.define(x.prepare(1, 1, -1, a));
        CHECK.due("run", 'v', x.run(0, 5, NO, 99, true));
        CHECK.due("nothing is fixed", 0, x.fixed(0));
        CHECK.dueDouble("share", 0.0f, x.fixedShare());
        int maybe = x.node('?', a, a, x.node('o', dog, one, 0));
        x.define(x.prepare(2, 1, -1, x.node('c', 1, maybe, -1)));
        CHECK.due("run", 'v', x.run(2, 5, NO, 99, true));
        CHECK.due("the ints alone are not all", 0, x.fixed(1));
        CHECK.due("edges", 2, x.edges(1));
        x.define(x.prepare(1, 0, -1, a));
        x.takeAway(1);
        CHECK.due("run", 'v', x.run(2, 5, NO, 99, true));
        CHECK.due("one for all", 1, x.fixed(x.codes() - 2));
    }

    private static void edges() {
        Worldage x = new Worldage();
        int dog = x.named(0, true);
        int a = x.node('a', 0, 0, 0);
        int one = x.node('n', 1, 0, 0);
        int thrown = x.node('t', one, 0, 0);
        int call = x.node('c', 1, a, -1);
        int same = x.node('c', 1, a, -1);
        int object = x.node('c', 1, x.node('o', dog, a, 0), -1);
        int nothing = x.node('c', 5, thrown, -1);
        int late = x.node('l', 5, x.node('c', 3, a, -1), -1);
        x.define(x.prepare(0, 1, -1, x.node('y', x.node('+', call, same, 0), x.node('y', object, nothing, 0), 0)));
        x.define(x.prepare(1, 0, -1, x.node('c', 2, a, a)));
        x.define(x.prepare(4, 1, -1, x.node('y', one, late, 0)));
        CHECK.throwing("no codes", ArithmeticException.class, x::meanEdges);
        x.run(5, 1, NO, 99, true);
        CHECK.due("a call alone", 1, x.edges(0));
        x.run(0, 1, NO, 99, true);
        CHECK.due("itself, two of 1, two of 2", 5, x.edges(1));
        int codes = x.codes();
        CHECK.due("codes", 4, codes);
        CHECK.due("of the call within", 2, x.edges(2));
        CHECK.due("of that one's", 1, x.edges(3));
        CHECK.dueDouble("mean", 9.0 / 4.0, x.meanEdges());
        x.run(4, 1, NO, 99, true);
        CHECK.due("the argument of l, but not l", 2, x.edges(4));
        x.define(x.prepare(3, x.ofInt(1), -1, call));
        CHECK.due("one that calls it is stale", 1, x.stale());
        x.run(4, 1, NO, 99, true);
        CHECK.due("made again with those behind", 4, x.edges(5));
        operandsOfAll();
    }

    /** Calls in operands are met, whatever the node with the operand has. */
    private static void operandsOfAll() {
        Worldage x = new Worldage();
        int dog = x.named(0, true);
        int a = x.node('a', 0, 0, 0);
        int[] calls = new int[6];
        for (int i = 1; i < 6; i++) {
            calls[i] = x.node('c', i, a, -1);
        }
        int[] nodes = {x.node('l', 0, calls[1], calls[2]), x.node('o', dog, calls[3], 0), x.node('f', calls[4], 0, 0),
            x.node('t', calls[5], 0, 0), x.node('+', x.node('t', calls[1], 0, 0), calls[2], 0),
            x.node('?', calls[3], calls[4], calls[5])};
        int[] edges = {3, 2, 2, 2, 3, 2};
        for (int i = 0; i < nodes.length; i++) {
            int method = x.prepare(0, 1, -1, nodes[i]);
            x.define(method);
            x.run(0, 1, NO, 1, true);
            CHECK.due("edges of node " + i, edges[i], x.edges(x.codes() - 1));
            x.takeAway(method);
        }
    }

    private static void stale() {
        Worldage x = new Worldage();
        int dog = x.named(0, true);
        int a = x.node('a', 0, 0, 0);
        int one = x.node('n', 1, 0, 0);
        int call = x.node('c', 1, a, -1);
        x.define(x.prepare(0, 1, -1, call));
        int ints = x.prepare(1, 1, -1, a);
        int same = x.prepare(1, 1, -1, one);
        int dogs = x.prepare(1, dog, -1, one);
        int pairs = x.prepare(1, 1, 1, one);
        int others = x.prepare(2, 1, -1, one);
        int three = x.prepare(1, x.ofInt(3), -1, one);
        x.define(ints);
        x.run(0, 5, NO, 99, true);
        CHECK.due("codes", 2, x.codes());
        CHECK.due("not stale", 0, x.stale());
        x.define(dogs);
        CHECK.due("dogs meet no ints", 0, x.stale());
        x.define(pairs);
        CHECK.due("two parameters", 0, x.stale());
        x.define(others);
        CHECK.due("another function", 0, x.stale());
        x.define(three);
        CHECK.due("some ints", 2, x.stale());
        x.takeAway(three);
        CHECK.due("stale for good", 2, x.stale());
        x.run(0, 5, NO, 99, true);
        CHECK.due("made again", 4, x.codes());
        CHECK.due("the old ones stay", 2, x.stale());
        x.define(same);
        CHECK.due("replaced", 4, x.stale());
        CHECK.due("run", 'v', x.run(0, 5, NO, 99, true));
        CHECK.due("by the new one", 1, x.result());
        CHECK.due("none looked up", 0, x.lookups());
        x.takeAway(same);
        CHECK.due("all", 6, x.stale());
        CHECK.due("nothing there", 'n', x.run(0, 5, NO, 99, true));
        CHECK.due("an edge to what is not there", 7, x.stale() + (x.define(ints) > 0 ? 1 : 0));
        CHECK.due("both are stale then", 8, x.stale());
        definedByRuns();
    }

    private static void definedByRuns() {
        Worldage x = new Worldage();
        int a = x.node('a', 0, 0, 0);
        int one = x.node('n', 1, 0, 0);
        int some = x.prepare(1, x.ofInt(3), -1, one);
        int call = x.node('c', 1, a, -1);
        x.define(x.prepare(1, 1, -1, a));
        x.define(x.prepare(0, 1, -1, x.node('+', x.node('*', x.node('d', some, 0, 0), one, 0), call, 0)));
        x.run(1, 3, NO, 9, true);
        CHECK.due("codes", 1, x.codes());
        CHECK.due("run", 'v', x.run(0, 3, NO, 99, true));
        CHECK.due("3 and 3 by its age", 6, x.result());
        CHECK.due("both taken", 2, x.taken());
        CHECK.due("both stale now", 2, x.stale());
        CHECK.due("run", 'v', x.run(1, 3, NO, 99, true));
        CHECK.due("the new one", 1, x.result());
    }

    private static void sixty() {
        Worldage x = new Worldage();
        int a = x.node('a', 0, 0, 0);
        int call = x.node('c', 1, a, -1);
        int body = x.node('+', call, call, 0);
        x.define(x.prepare(0, 1, -1, body));
        int turning = x.prepare(1, 1, -1, a);
        for (int i = 0; i < 30; i++) {
            if (i % 2 == 0) {
                x.define(turning);
            } else {
                x.takeAway(turning);
            }
            x.run(0, 1, NO, 99, true);
            CHECK.due("codes", 2 * i + 2, x.codes());
        }
        CHECK.due("all but two are stale", 58, x.stale());
        CHECK.due("fixed", 1, x.fixed(56));
        CHECK.due("not fixed", 0, x.fixed(58));
        x.run(1, 1, NO, 99, true);
        CHECK.due("taken, none made", 60, x.codes());
        x.run(2, 1, NO, 99, true);
        CHECK.due("the next one is alone", 1, x.codes());
        CHECK.due("method", -1, x.methodOf(0));
        CHECK.due("edges", 1, x.edges(0));
        CHECK.due("stale", 0, x.stale());
        CHECK.dueDouble("mean", 1.0, x.meanEdges());
        CHECK.throwing("no nodes c", ArithmeticException.class, x::fixedShare);
        CHECK.throwing("only one", IndexOutOfBoundsException.class, () -> x.edges(1));
        CHECK.due("run", 'n', x.run(0, 1, NO, 99, true));
        CHECK.due("codes", 3, x.codes());
        goneWhileUsed();
    }

    /** The code of a call goes while it is under way: its fixed methods last as long as the call. */
    private static void goneWhileUsed() {
        Worldage x = new Worldage();
        int a = x.node('a', 0, 0, 0);
        int call = x.node('c', 1, a, -1);
        x.define(x.prepare(0, 1, -1, x.node('+', call, call, 0)));
        x.define(x.prepare(1, 1, -1, a));
        int turning = x.prepare(2, 1, -1, a);
        for (int i = 0; i < 59; i++) {
            if (i % 2 == 0) {
                x.define(turning);
            } else {
                x.takeAway(turning);
            }
            x.run(2, 1, NO, 99, true);
        }
        CHECK.due("codes", 59, x.codes());
        CHECK.due("run", 'v', x.run(0, 1, NO, 99, true));
        CHECK.due("the second one made all others go", 1, x.codes());
        CHECK.due("method", 1, x.methodOf(0));
        CHECK.due("no lookups", 0, x.lookups());
        CHECK.due("taken", 3, x.taken());
    }

    /** Where no round is as the one before, calls count as having anything, and edges are those of the body alone. */
    private static void notEnded() {
        Worldage x = new Worldage();
        int dog = x.named(0, true);
        int a = x.node('a', 0, 0, 0);
        int one = x.node('n', 1, 0, 0);
        int self = x.node('c', 0, x.node('-', a, one, 0), -1);
        int shown = x.node('c', 1, self, -1);
        int object = x.node('o', dog, one, 0);
        int growing = x.node('?', a, x.node('x', self, 0, 0), object);
        x.define(x.prepare(0, 1, -1, x.node('?', x.node('<', a, one, 0), growing, x.node('y', growing, shown, 0))));
        x.define(x.prepare(1, 0, -1, x.node('c', 2, a, -1)));
        x.define(x.prepare(2, 0, -1, a));
        int other = x.node('c', 1, a, -1);
        x.define(x.prepare(5, 0, -1, other));
        CHECK.due("infer", 0, x.infer(0, 1, -1));
        CHECK.due("run", 'v', x.run(0, 0, NO, 99, true));
        CHECK.due("itself, and 1 with anything", 2, x.edges(0));
        CHECK.due("both fixed", 2, x.fixed(0));
        x.takeAway(2);
        CHECK.due("what its calls call is none of its edges", 0, x.stale());
        x.takeAway(1);
        CHECK.due("what it calls is", 1, x.stale());
    }

    /** A node c that is met with other types in the bodies of other calls, ahead of its own or behind it, is fixed. */
    private static void metWithOthers() {
        Worldage x = new Worldage();
        int a = x.node('a', 0, 0, 0);
        int five = x.node('n', 5, 0, 0);
        int shown = x.node('c', 1, a, -1);
        int again = x.node('c', 0, five, -1);
        x.define(x.prepare(1, 1, -1, a));
        x.define(x.prepare(0, 1, -1, x.node('+', again, shown, 0)));
        x.run(0, 1, NO, 9, true);
        CHECK.due("both calls", 2, x.fixed(0));
        CHECK.due("edges", 4, x.edges(0));
        fixedInItsBody();
    }

    /** Behind the call that is asked for, the second argument takes the place of the first one in the same node. */
    private static void fixedInItsBody() {
        Worldage x = new Worldage();
        int second = x.node('a', 1, 0, 0);
        int seven = x.node('n', 7, 0, 0);
        int dog = x.named(0, true);
        int self = x.node('c', 3, second, seven);
        x.define(x.prepare(3, 0, 0, self));
        CHECK.due("ends by calls", 's', x.run(3, 1, 1, 100, true));
        CHECK.due("fixed", 1, x.fixed(0));
        CHECK.due("edges, of 1 and 7 in each place", 3, x.edges(0));
        CHECK.dueDouble("share", 1.0f, x.fixedShare());
        CHECK.due("none looked up", 0, x.lookups());
        CHECK.due("trim", 1, x.trim(3, 1, 1));
        x.define(x.prepare(3, x.ofInt(7), dog, second));
        CHECK.due("7 and a dog meet none of them", 0, x.stale());
        x.define(x.prepare(3, 1, x.ofInt(7), second));
        CHECK.due("stale", 1, x.stale());
        CHECK.due("sees both", 'v', x.run(3, 1, 1, 100, true));
        CHECK.due("not fixed, as 7 has two", 0, x.fixed(1));
        CHECK.throwing("trim", UnsupportedOperationException.class, () -> x.trim(3, 1, 1));
    }

    private static void refused() {
        Worldage x = new Worldage();
        x.run(0, 1, NO, 9, true);
        CHECK.due("codes", 1, x.codes());
        CHECK.throwing("edges 1", IndexOutOfBoundsException.class, () -> x.edges(1));
        CHECK.throwing("edges -1", IndexOutOfBoundsException.class, () -> x.edges(-1));
        CHECK.throwing("fixed 1", IndexOutOfBoundsException.class, () -> x.fixed(1));
        CHECK.throwing("fixed -1", IndexOutOfBoundsException.class, () -> x.fixed(-1));
        CHECK.throwing("methodOf 1", IndexOutOfBoundsException.class, () -> x.methodOf(1));
        CHECK.throwing("methodOf -1", IndexOutOfBoundsException.class, () -> x.methodOf(-1));
        CHECK.throwing("no nodes c", ArithmeticException.class, x::fixedShare);
        CHECK.dueDouble("mean", 1.0, x.meanEdges());
    }
}
