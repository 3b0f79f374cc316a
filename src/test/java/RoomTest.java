/** Not one promise, but the room and the time that 512 calls may take, and calls of bodies that spread wide. */
public final class RoomTest {
    private static final Check CHECK = new Check();
    private static final int NO = Integer.MIN_VALUE;

    public static void main(String[] args) {
        wideCalls();
        sharedNodes();
        manyAges();
        CHECK.end();
    }

    private static int bodyOfCalls(Worldage x, int calls) {
        int a = x.node('a', 0, 0, 0);
        int[] nodes = new int[calls];
        for (int i = 0; i < calls; i++) {
            int factor = x.node('n', 2 * i + 3, 0, 0);
            nodes[i] = x.node('c', 0, x.node('+', x.node('*', a, factor, 0), factor, 0), -1);
        }
        for (int left = calls; left > 1; left = (left + 1) / 2) {
            for (int i = 0; i < left / 2; i++) {
                nodes[i] = x.node('+', nodes[i], nodes[left - 1 - i], 0);
            }
        }
        return nodes[0];
    }

    private static void wideCalls() {
        Worldage x = new Worldage();
        x.define(x.prepare(0, 1, -1, bodyOfCalls(x, 6)));
        CHECK.due("some thousands", 1, x.infer(0, x.ofInt(0), -1));
        CHECK.due("of ints", 2, x.infer(0, 1, -1));
        CHECK.due("run", 's', x.run(0, 1, NO, 1000, true));
        Worldage y = new Worldage();
        y.define(y.prepare(0, 1, -1, bodyOfCalls(y, 16)));
        for (int i = 0; i < 30; i++) {
            int one = y.ofInt(i);
            CHECK.due("more than there is room for", true, y.infer(0, one, -1) != 1);
        }
        CHECK.due("there is room for types", 33, y.named(0, true));
        CHECK.due("one more", 34, y.box(33));
        CHECK.due("run", 's', y.run(0, 1, NO, 1000, true));
    }

    /** Nodes that are shared at each depth, so that the body is a great tree. */
    private static void sharedNodes() {
        Worldage x = new Worldage();
        int a = x.node('a', 0, 0, 0);
        int node = x.node('c', 1, a, -1);
        for (int i = 0; i < 8; i++) {
            node = x.node('?', node, node, node);
        }
        x.define(x.prepare(0, 1, -1, node));
        x.define(x.prepare(1, 1, -1, a));
        for (int i = 0; i < 100; i++) {
            CHECK.due("infer", 1, x.infer(0, 1, -1));
        }
        CHECK.due("same", true, x.isSame(0, 1, NO, 1000));
    }

    /** Two methods that replace each other, as often as the steps of all calls let them. */
    private static void manyAges() {
        Worldage x = new Worldage();
        int a = x.node('a', 0, 0, 0);
        int one = x.node('n', 1, 0, 0);
        x.prepare(1, 1, -1, a);
        x.prepare(1, 1, -1, one);
        int both = x.node('+', x.node('d', 0, 0, 0), x.node('d', 1, 0, 0), 0);
        for (int i = 0; i < 6; i++) {
            both = x.node('+', both, both, 0);
        }
        x.define(x.prepare(0, 1, -1, x.node('+', both, both, 0)));
        for (int i = 0; i < 400; i++) {
            CHECK.due("run", 'v', x.run(0, 1, NO, 1000, true));
        }
        CHECK.due("age", 1 + 400 * 256, x.age());
        CHECK.due("the first", true, x.isThere(0, 2));
        CHECK.due("the second", true, x.isThere(1, 3));
        CHECK.due("the last", true, x.isThere(1, x.age()));
    }
}
