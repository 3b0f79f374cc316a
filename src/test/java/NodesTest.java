import java.util.NoSuchElementException;

/** Promise 10: node. */
public final class NodesTest {
    private static final Check CHECK = new Check();

    public static void main(String[] args) {
        kinds();
        ranges();
        nodesThatAreNot();
        depth();
        full();
        CHECK.end();
    }

    private static void kinds() {
        Worldage x = new Worldage();
        int dog = x.named(0, true);
        CHECK.due("n", 0, x.node('n', Integer.MIN_VALUE, -9, 99));
        CHECK.due("a", 1, x.node('a', 1, -9, 99));
        CHECK.due("d", 2, x.node('d', 39, -9, 99));
        String twofold = "+-*<y";
        for (int i = 0; i < twofold.length(); i++) {
            CHECK.due("twofold", 3 + i, x.node(twofold.charAt(i), 0, 1, -7));
        }
        CHECK.due("?", 8, x.node('?', 0, 1, 0));
        CHECK.due("c with one", 9, x.node('c', 5, 0, -1));
        CHECK.due("c with two", 10, x.node('c', 0, 0, 1));
        CHECK.due("l with one", 11, x.node('l', 5, 0, -1));
        CHECK.due("l with two", 12, x.node('l', 0, 0, 1));
        CHECK.due("o", 13, x.node('o', dog, 0, 999));
        String onefold = "fxut";
        for (int i = 0; i < onefold.length(); i++) {
            CHECK.due("onefold", 14 + i, x.node(onefold.charAt(i), 0, -5, -5));
        }
        for (char kind = 0; kind < 300; kind++) {
            char each = kind;
            if ("na+-*<?clofxudty".indexOf(kind) < 0) {
                CHECK.throwing("kind " + (int) kind, IllegalArgumentException.class, () -> x.node(each, 0, 0, 0));
            }
        }
    }

    private static void ranges() {
        Worldage x = new Worldage();
        int animal = x.named(0, false);
        int one = x.ofInt(1);
        refused(x, 'a', -1);
        refused(x, 'a', 2);
        refused(x, 'c', -1);
        refused(x, 'c', 6);
        refused(x, 'l', -1);
        refused(x, 'l', 6);
        refused(x, 'd', -1);
        refused(x, 'd', 40);
        refused(x, 'o', animal);
        refused(x, 'o', one);
        refused(x, 'o', 0);
        refused(x, 'o', 1);
        refused(x, 'o', -1);
        refused(x, 'o', 60);
        CHECK.due("nothing was told", 0, x.node('n', 0, 0, 0));
    }

    /** The nodes that it would have are not there either: what is out of range is told first. */
    private static void refused(Worldage x, char kind, int a) {
        CHECK.throwing(kind + " of " + a, IllegalArgumentException.class, () -> x.node(kind, a, 0, 0));
    }

    private static void nodesThatAreNot() {
        Worldage x = new Worldage();
        int dog = x.named(0, true);
        x.node('n', 0, 0, 0);
        missing(x, '+', 1, 0, 0);
        missing(x, '-', 0, 1, 0);
        missing(x, '*', -1, 0, 0);
        missing(x, '<', 0, -1, 0);
        missing(x, '?', 1, 0, 0);
        missing(x, '?', 0, 1, 0);
        missing(x, '?', 0, 0, -1);
        missing(x, 'c', 0, -1, 0);
        missing(x, 'c', 0, 0, 1);
        missing(x, 'c', 0, 0, -2);
        missing(x, 'l', 0, 1, -1);
        missing(x, 'l', 0, 0, -2);
        missing(x, 'o', dog, 1, 0);
        missing(x, 'f', 1, 0, 0);
        missing(x, 'x', -1, 0, 0);
        missing(x, 'u', 1, 0, 0);
        missing(x, 't', 1, 0, 0);
        missing(x, 'y', 1, 0, 0);
        missing(x, 'y', 0, 1, 0);
        CHECK.due("nothing was told", 1, x.node('n', 0, 0, 0));
    }

    private static void missing(Worldage x, char kind, int a, int b, int c) {
        CHECK.throwing(kind + " " + a + " " + b + " " + c, NoSuchElementException.class, () -> x.node(kind, a, b, c));
    }

    private static void depth() {
        Worldage x = new Worldage();
        int dog = x.named(0, true);
        int node = x.node('n', 0, 0, 0);
        for (int i = 0; i < 9; i++) {
            node = x.node(i % 2 == 0 ? 'x' : 'u', node, 0, 0);
        }
        int deep = node;
        CHECK.due("nine deep", 9, deep);
        tooDeep(x, '+', 0, deep, 0);
        tooDeep(x, '-', deep, 0, 0);
        tooDeep(x, '?', 0, 0, deep);
        tooDeep(x, 'c', 0, deep, -1);
        tooDeep(x, 'l', 0, 0, deep);
        tooDeep(x, 'o', dog, deep, 0);
        tooDeep(x, 't', deep, 0, 0);
        tooDeep(x, 'y', 0, deep, 0);
        CHECK.throwing("a node that is not is told first", NoSuchElementException.class,
                () -> x.node('+', deep, 99, 0));
        CHECK.due("a number that is no node is not deep", 10, x.node('n', deep, deep, deep));
        CHECK.due("nor is a function", 11, x.node('c', 5, 0, 0));
    }

    private static void tooDeep(Worldage x, char kind, int a, int b, int c) {
        CHECK.throwing(kind + " too deep", IllegalStateException.class, () -> x.node(kind, a, b, c));
    }

    private static void full() {
        Worldage x = new Worldage();
        for (int i = 0; i < 120; i++) {
            CHECK.due("node", i, x.node('n', i, 0, 0));
        }
        CHECK.throwing("node 120", IllegalStateException.class, () -> x.node('n', 0, 0, 0));
        CHECK.throwing("a missing one is told first", NoSuchElementException.class, () -> x.node('x', 120, 0, 0));
        CHECK.throwing("a wrong kind is told first", IllegalArgumentException.class, () -> x.node('z', 0, 0, 0));
    }
}
