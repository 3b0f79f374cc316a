/** Not one promise, but the room and the time that 512 calls may take, and calls of bodies that spread wide. */
public final class RoomTest {
    private static final Check CHECK = new Check();
    private static final int NO = Integer.MIN_VALUE;

    public static void main(String[] args) {
        wideCalls();
        manyUnions();
        sharedNodes();
        manyAges();
        CHECK.end();
    }

    private static int bodyOfCalls(Worldage x, int calls) {
        int a = x.node('a', 0, 0, 0);
        int[] nodes = new int[calls];
        for (int i = 0; i < calls; i++) {
            int factor = x.node('n', 2 * i + 3, 0, 0);
            nodes[i] = x.node('c', 0, x.node('+', x.node('*', a, factor, 0), factor, 0), -1);
        }
        for (int left = calls; left > 1; left = (left + 1) / 2) {
            for (int i = 0; i < left / 2; i++) {
                nodes[i] = x.node('+', nodes[i], nodes[left - 1 - i], 0);
            }
        }
        return nodes[0];
    }

    private static void wideCalls() {
        Worldage x = new Worldage();
        x.define(x.prepare(0, 1, -1, bodyOfCalls(x, 6)));
        CHECK.due("some thousands", 1, x.infer(0, x.ofInt(0), -1));
        CHECK.due("of ints", 2, x.infer(0, 1, -1));
        CHECK.due("run", 's', x.run(0, 1, NO, 1000, true));
        Worldage y = new Worldage();
        y.define(y.prepare(0, 1, -1, bodyOfCalls(y, 11)));
        for (int i = 0; i < 5; i++) {
            CHECK.due("as many each time", 1, y.infer(0, y.ofInt(i), -1));
        }
        CHECK.due("types", 8, y.named(0, true));
        CHECK.due("one more", 9, y.box(8));
        CHECK.due("run", 's', y.run(0, 1, NO, 1000, true));
        Worldage z = new Worldage();
        z.define(z.prepare(0, 1, -1, bodyOfCalls(z, 20)));
        CHECK.due("more than there is room for", 0, z.infer(0, z.ofInt(1), -1));
        CHECK.due("goes on", 2, z.infer(0, 1, -1));
        CHECK.due("run", 's', z.run(0, 1, NO, 1000, true));
    }

    private static int sum(Worldage x, int[] nodes, int count) {
        int left = count;
        while (left > 1) {
            int next = 0;
            for (int i = 0; i < left; i += 2) {
                nodes[next] = i + 1 < left ? x.node('+', nodes[i], nodes[i + 1], 0) : nodes[i];
                next++;
            }
            left = next;
        }
        return nodes[0];
    }

    /** Some 66,000 unions in each of many calls: those that no code needs are let go. */
    private static void manyUnions() {
        Worldage x = new Worldage();
        int a = x.node('a', 0, 0, 0);
        int b = x.node('a', 1, 0, 0);
        int nine = x.node('n', 9, 0, 0);
        int times = x.node('*', a, nine, 0);
        int[] calls = new int[9];
        for (int i = 0; i < 9; i++) {
            int more = x.node('+', times, x.node('n', i, 0, 0), 0);
            calls[i] = x.node('c', 0, more, x.node('?', b, more, a));
        }
        x.define(x.prepare(0, 1, 1, sum(x, calls, 9)));
        for (int function = 1; function < 6; function++) {
            int first = x.node('n', 1000000 * function, 0, 0);
            int either = x.node('?', a, first, nine);
            x.define(x.prepare(function, 1, -1, x.node('c', 0, first, either)));
        }
        for (int i = 0; i < 10; i++) {
            int function = 1 + i % 5;
            x.run(function, 1, NO, 3, true);
            CHECK.due("edges", 2 + 9 + 81 + 729 + 6561, x.edges(x.codes() - 1));
            CHECK.due("fixed", 1, x.fixed(x.codes() - 1));
            x.takeAway(function);
            x.define(function);
            CHECK.due("all are stale", x.codes(), x.stale());
        }
        CHECK.dueDouble("mean", 2 + 9 + 81 + 729 + 6561, x.meanEdges());
        int seven = x.ofInt(7);
        int pair = x.union(1, x.named(0, true));
        for (int i = 0; i < 3; i++) {
            CHECK.due("infer", 1, x.infer(0, seven, pair));
        }
        CHECK.due("the union", pair, x.union(1, pair - 1));
        x.define(x.prepare(1, seven, -1, a));
        CHECK.due("stale", 10, x.stale());
    }

    /** Nodes that are shared at each depth, so that the body is a great tree. */
    private static void sharedNodes() {
        Worldage x = new Worldage();
        int a = x.node('a', 0, 0, 0);
        int node = x.node('c', 1, a, -1);
        for (int i = 0; i < 8; i++) {
            node = x.node('?', node, node, node);
        }
        x.define(x.prepare(0, 1, -1, node));
        x.define(x.prepare(1, 1, -1, a));
        for (int i = 0; i < 100; i++) {
            CHECK.due("infer", 1, x.infer(0, 1, -1));
        }
        CHECK.due("same", true, x.isSame(0, 1, NO, 1000));
    }

    /** Two methods that replace each other, as often as the steps of all calls let them. */
    private static void manyAges() {
        Worldage x = new Worldage();
        int a = x.node('a', 0, 0, 0);
        int one = x.node('n', 1, 0, 0);
        x.prepare(1, 1, -1, a);
        x.prepare(1, 1, -1, one);
        int both = x.node('+', x.node('d', 0, 0, 0), x.node('d', 1, 0, 0), 0);
        for (int i = 0; i < 6; i++) {
            both = x.node('+', both, both, 0);
        }
        x.define(x.prepare(0, 1, -1, x.node('+', both, both, 0)));
        for (int i = 0; i < 400; i++) {
            CHECK.due("run", 'v', x.run(0, 1, NO, 1000, true));
        }
        CHECK.due("age", 1 + 400 * 256, x.age());
        CHECK.due("the first", true, x.isThere(0, 2));
        CHECK.due("the second", true, x.isThere(1, 3));
        CHECK.due("the last", true, x.isThere(1, x.age()));
    }
}
