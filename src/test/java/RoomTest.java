/** Not one promise, but the room and the time that 512 calls may take, and calls of bodies that spread wide. */
public final class RoomTest {
    private static final Check CHECK = new Check();
    private static final int NO = Integer.MIN_VALUE;

    public static void main(String[] args) {
        wideCalls();
        manyUnions();
        typesOfCodes();
        typesOfTrim(2);
        typesOfTrim(4);
        manyTypesInOneRun();
        for (int way = 0; way < 4; way++) {
            valuesOfOneRun(way);
        }
        sharedNodes();
        manyAges();
        unionsOfTrim();
        edgesOfManyCodes(13, 12);
        edgesOfManyCodes(4, 59);
        commonEdges();
        CHECK.end();
    }

    private static int bodyOfCalls(Worldage x, int calls) {
        int a = x.node('a', 0, 0, 0);
        int[] nodes = new int[calls];
        for (int i = 0; i < calls; i++) {
            int factor = x.node('n', 2 * i + 3, 0, 0);
            nodes[i] = x.node('c', 0, x.node('+', x.node('*', a, factor, 0), factor, 0), -1);
        }
        for (int left = calls; left > 1; left = (left + 1) / 2) {
            for (int i = 0; i < left / 2; i++) {
                nodes[i] = x.node('+', nodes[i], nodes[left - 1 - i], 0);
            }
        }
        return nodes[0];
    }

    private static void wideCalls() {
        Worldage x = new Worldage();
        x.define(x.prepare(0, 1, -1, bodyOfCalls(x, 6)));
        CHECK.due("some thousands", 1, x.infer(0, x.ofInt(0), -1));
        CHECK.due("of ints", 2, x.infer(0, 1, -1));
        CHECK.due("run", 's', x.run(0, 1, NO, 1000, true));
        Worldage y = new Worldage();
        y.define(y.prepare(0, 1, -1, bodyOfCalls(y, 11)));
        for (int i = 0; i < 5; i++) {
            CHECK.due("as many each time", 1, y.infer(0, y.ofInt(i), -1));
        }
        CHECK.due("what is reached by ever new ints", 1, y.trim(0, y.ofInt(3), -1));
        CHECK.due("types", 8, y.named(0, true));
        CHECK.due("one more", 9, y.box(8));
        CHECK.due("run", 's', y.run(0, 1, NO, 1000, true));
        Worldage z = new Worldage();
        z.define(z.prepare(0, 1, -1, bodyOfCalls(z, 16)));
        CHECK.due("some hundred thousands", 1, z.infer(0, z.ofInt(1), -1));
        z = new Worldage();
        z.define(z.prepare(0, 1, -1, bodyOfCalls(z, 23)));
        int wide = z.infer(0, z.ofInt(1), -1);
        CHECK.due("it ends, with more than there is room for", true, wide == 0 || wide == 1);
        CHECK.due("goes on", 2, z.infer(0, 1, -1));
        CHECK.due("run", 's', z.run(0, 1, NO, 1000, true));
    }

    private static int sum(Worldage x, int[] nodes, int count) {
        int left = count;
        while (left > 1) {
            int next = 0;
            for (int i = 0; i < left; i += 2) {
                nodes[next] = i + 1 < left ? x.node('+', nodes[i], nodes[i + 1], 0) : nodes[i];
                next++;
            }
            left = next;
        }
        return nodes[0];
    }

    /** Some 66,000 unions in each of many calls: those that no code needs are let go. */
    private static void manyUnions() {
        Worldage x = new Worldage();
        int a = x.node('a', 0, 0, 0);
        int b = x.node('a', 1, 0, 0);
        int nine = x.node('n', 9, 0, 0);
        int times = x.node('*', a, nine, 0);
        int[] calls = new int[9];
        for (int i = 0; i < 9; i++) {
            int more = x.node('+', times, x.node('n', i, 0, 0), 0);
            calls[i] = x.node('c', 0, more, x.node('?', b, more, a));
        }
        x.define(x.prepare(0, 1, 1, sum(x, calls, 9)));
        for (int function = 1; function < 6; function++) {
            int first = x.node('n', 1000000 * function, 0, 0);
            int either = x.node('?', a, first, nine);
            x.define(x.prepare(function, 1, -1, x.node('c', 0, first, either)));
        }
        for (int i = 0; i < 10; i++) {
            int function = 1 + i % 5;
            x.run(function, 1, NO, 3, true);
            CHECK.due("edges", 2 + 9 + 81 + 729 + 6561, x.edges(x.codes() - 1));
            CHECK.due("fixed", 1, x.fixed(x.codes() - 1));
            x.takeAway(function);
            x.define(function);
            CHECK.due("all are stale", x.codes(), x.stale());
        }
        CHECK.dueDouble("mean", 2 + 9 + 81 + 729 + 6561, x.meanEdges());
        int seven = x.ofInt(7);
        int pair = x.union(1, x.named(0, true));
        for (int i = 0; i < 3; i++) {
            CHECK.due("infer", 1, x.infer(0, seven, pair));
        }
        CHECK.due("the union", pair, x.union(1, pair - 1));
        x.define(x.prepare(1, seven, -1, a));
        CHECK.due("stale", 10, x.stale());
    }

    /** Function 5 makes some 20,000 types, half of them with dogs, that nothing needs any more when it is inferred. */
    private static Worldage withManyTypes() {
        Worldage x = new Worldage();
        int dog = x.named(0, true);
        int a = x.node('a', 0, 0, 0);
        int b = x.node('a', 1, 0, 0);
        int times = x.node('*', a, x.node('n', 5, 0, 0), 0);
        int object = x.node('o', dog, a, 0);
        int[] calls = new int[5];
        for (int i = 0; i < 5; i++) {
            int more = x.node('+', times, x.node('n', i, 0, 0), 0);
            calls[i] = x.node('c', 5, more, x.node('?', b, more, x.node('?', b, object, a)));
        }
        x.define(x.prepare(5, 0, 0, sum(x, calls, 5)));
        x.ofInt(1000);
        return x;
    }

    /** Function 0 goes through ints, each with a call of function 1 with unions of it: four types that last. */
    private static Worldage withUnions(int step, int limit, boolean isHanging) {
        Worldage x = new Worldage();
        int a = x.node('a', 0, 0, 0);
        int[] ints = new int[4];
        for (int i = 0; i < 4; i++) {
            ints[i] = x.node('n', -1 - i, 0, 0);
        }
        int first = x.node('y', x.node('y', a, ints[0], 0), ints[1], 0);
        int second = x.node('y', x.node('y', a, ints[2], 0), ints[3], 0);
        int unions = x.node('c', 1, first, second);
        int on = x.node('c', 0, x.node('+', a, x.node('n', step, 0, 0), 0), -1);
        int both = x.node('y', unions, on, 0);
        int body = isHanging ? x.node('y', both, x.node('c', 2, unions, -1), 0) : both;
        int isLess = x.node('<', a, x.node('n', limit, 0, 0), 0);
        x.define(x.prepare(0, 1, -1, x.node('?', isLess, body, a)));
        x.define(x.prepare(1, 1, 1, a));
        x.define(x.prepare(2, 0, -1, a));
        x.ofInt(0);
        return x;
    }

    private static void unionsOfTrim() {
        CHECK.due("two", 2, withUnions(1, 150000, false).trim(0, 3, -1));
        CHECK.due("three", 3, withUnions(1, 20000, true).trim(0, 3, -1));
        Worldage x = withUnions(2, 2000000000, false);
        int odd = x.ofInt(7);
        x.define(x.prepare(0, odd, -1, 0));
        CHECK.due("more types than there is room for", 2, x.trim(0, 3, -1));
        CHECK.throwing("one that is met", UnsupportedOperationException.class, () -> x.trim(0, odd, -1));
        int union = x.union(3, odd);
        CHECK.due("there is room for types again", union, x.infer(2, union, -1));
    }

    /**
     * Function 0 calls itself with so many ints, which begin with those of the methods of the functions from 1 on: the
     * edges of one code are the code's own call and as many others as it returns.
     */
    private static int wideEdges(Worldage x, int wide) {
        int a = x.node('a', 0, 0, 0);
        int times = x.node('*', a, x.node('n', wide, 0, 0), 0);
        int[] calls = new int[wide];
        for (int i = 0; i < wide; i++) {
            calls[i] = x.node('c', 0, x.node('+', times, x.node('n', i, 0, 0), 0), -1);
        }
        x.define(x.prepare(0, 1, -1, sum(x, calls, wide)));
        int[] first = new int[wide - 1];
        for (int i = 0; i < wide - 1; i++) {
            first[i] = x.node('c', 0, x.node('n', i + 1, 0, 0), -1);
        }
        int body = sum(x, first, wide - 1);
        for (int function = 1; function < 6; function++) {
            x.define(x.prepare(function, 1, -1, body));
            x.define(x.prepare(function, 1, 1, body));
        }
        int count = wide - 1;
        for (int depth = 1; depth < 5; depth++) {
            count = count * wide + wide - 1;
        }
        return count;
    }

    /** Code that becomes stale each time: its edges count, also if those of all codes are some millions together. */
    private static void edgesOfManyCodes(int wide, int count) {
        Worldage x = new Worldage();
        int edges = 1 + wideEdges(x, wide);
        for (int code = 0; code < count; code++) {
            x.run(1, 1, NO, 1, true);
            CHECK.due("codes", code + 1, x.codes());
            CHECK.due("stale", code, x.stale());
            CHECK.due("edges", edges, x.edges(code));
            x.takeAway(1);
            x.define(1);
            CHECK.due("stale", code + 1, x.stale());
        }
        CHECK.due("edges of the first one", edges, x.edges(0));
        CHECK.dueDouble("mean", edges, x.meanEdges());
        x.run(1, 1, NO, 1, true);
        CHECK.due("one is not stale", count, x.stale());
        x.define(x.prepare(0, x.ofInt(wide * wide * wide + 2), -1, 0));
        CHECK.due("an edge far on", count + 1, x.stale());
    }

    /** Codes of ten calls have all edges but one in common. */
    private static void commonEdges() {
        Worldage x = new Worldage();
        int edges = 1 + wideEdges(x, 7);
        for (int turn = 0; turn < 6; turn++) {
            for (int i = 0; i < 10; i++) {
                x.run(1 + i / 2, 1, i % 2 == 0 ? NO : 1, 1, true);
                CHECK.due("edges", edges, x.edges(10 * turn + i));
            }
            CHECK.due("codes", 10 * turn + 10, x.codes());
            CHECK.due("stale", 10 * turn, x.stale());
            x.takeAway(1 + turn);
            CHECK.due("one is stale", 10 * turn + 1, x.stale());
            x.define(1 + turn);
            CHECK.due("no other one", 10 * turn + 1, x.stale());
            x.define(x.prepare(0, x.ofInt(343 + turn), -1, 0));
            CHECK.due("all are stale", 10 * turn + 10, x.stale());
            x.takeAway(11 + turn);
        }
        x.run(1, 1, NO, 1, true);
        CHECK.due("all others are gone", 1, x.codes());
        CHECK.due("edges", edges, x.edges(0));
        CHECK.due("stale", 0, x.stale());
        x.define(x.prepare(0, x.ofInt(7 * 7 * 7 * 7 * 7), -1, 0));
        CHECK.due("not met", 0, x.stale());
        x.define(x.prepare(0, x.ofInt(7 * 7 * 7 * 7 * 7 - 1), -1, 0));
        CHECK.due("met", 1, x.stale());
    }

    /** The types of codes, of their edges and of the last value stay what they are while others are let go. */
    private static void typesOfCodes() {
        Worldage x = withManyTypes();
        int dog = 3;
        int cat = x.named(0, true);
        int a = 0;
        int object = x.node('o', dog, a, 0);
        int other = x.node('o', cat, a, 0);
        int box = x.node('x', x.node('x', object, 0, 0), 0, 0);
        int either = x.node('?', a, other, x.node('x', box, 0, 0));
        x.define(x.prepare(2, 0, 0, a));
        x.define(x.prepare(1, 1, -1, x.node('y', x.node('c', 2, box, either), a, 0)));
        x.define(x.prepare(3, 1, -1, x.node('x', x.node('x', x.node('x', a, 0, 0), 0, 0), 0, 0)));
        int late = x.prepare(2, x.box(x.box(cat)), 0, a);
        CHECK.due("run", 'v', x.run(1, 1, NO, 99, true));
        CHECK.due("codes", 2, x.codes());
        CHECK.due("edges", 2, x.edges(0));
        CHECK.due("run without code", 'v', x.run(3, 7, NO, 99, false));
        for (int i = 0; i < 4; i++) {
            CHECK.due("many types", 1, x.infer(5, x.ofInt(1000 + i), 1));
            CHECK.due("the int of the last value", 7, x.result());
        }
        CHECK.due("the type of the last value", x.box(x.box(x.box(1))), x.resultType());
        CHECK.due("run", 'v', x.run(1, 1, NO, 99, true));
        CHECK.due("both took code that was there", 2, x.codes());
        x.define(late);
        CHECK.due("boxes of boxes of cats meet no edge", 0, x.stale());
        int two = x.box(x.box(dog));
        x.define(x.prepare(2, two, x.box(two), a));
        CHECK.due("three boxes meet cats or three boxes", 1, x.stale());
        x.define(x.prepare(2, two, cat, a));
        CHECK.due("cats meet both", 2, x.stale());
    }

    /** The types of the calls that trim has come to stay what they are while others are let go; so do those of codes. */
    private static void typesOfTrim(int farFunction) {
        Worldage x = new Worldage();
        int dog = x.named(0, true);
        int either = x.union(x.boxBelow(dog), 1);
        int a = x.node('a', 0, 0, 0);
        int object = x.node('o', dog, a, 0);
        int unknown = x.node('f', a, 0, 0);
        int on = x.node('c', 3, x.node('+', a, x.node('n', 1, 0, 0), 0), -1);
        int[] parts = new int[25];
        int[] far = new int[3];
        for (int i = 0; i < 12; i++) {
            int more = x.node('+', a, x.node('n', 10000 * i + 7, 0, 0), 0);
            parts[i] = x.node('c', 2, x.node('?', unknown, more, a), -1);
            parts[12 + i] = x.node('?', unknown, object, more);
            if (i < 3) {
                far[i] = x.node('c', farFunction, parts[12 + i], -1);
            }
        }
        int isLess = x.node('<', a, x.node('n', 9000, 0, 0), 0);
        parts[24] = x.node('?', isLess, on, sum(x, far, 3));
        x.define(x.prepare(3, 1, -1, sum(x, parts, 25)));
        x.define(x.prepare(2, 0, 0, a));
        int box = x.node('c', 2, x.node('x', object, 0, 0), a);
        x.define(x.prepare(1, 1, -1, x.node('f', x.node('u', box, 0, 0), 0, 0)));
        int all = x.prepare(farFunction, 0, -1, a);
        x.define(all);
        if (farFunction != 2) {
            x.define(x.prepare(2, 1, -1, a));
            x.define(x.prepare(2, dog, -1, a));
        }
        CHECK.due("run", 'v', x.run(1, 5, NO, 99, true));
        int zero = x.ofInt(0);
        CHECK.due("itself, that for all, and that for ints", farFunction == 2 ? 2 : 3, x.trim(3, zero, -1));
        x.takeAway(all);
        x.define(x.prepare(farFunction, 1, -1, a));
        CHECK.throwing("at the end some ints or dogs", UnsupportedOperationException.class, () -> x.trim(3, zero, -1));
        CHECK.due("run", 'v', x.run(1, 5, NO, 99, true));
        CHECK.due("by the codes that were there", 2, x.codes());
        CHECK.due("of boxes of dogs", 5, x.result());
        CHECK.due("a union", either, x.union(x.boxBelow(dog), 1));
        CHECK.due("of boxes", true, x.isBelow(x.box(dog), either));
    }

    /** One run that makes code for ten types, each time with some 160,000 unions: they all find room. */
    private static void manyTypesInOneRun() {
        Worldage x = new Worldage();
        int dog = x.named(0, true);
        int a = x.node('a', 0, 0, 0);
        int b = x.node('a', 1, 0, 0);
        int zero = x.node('n', 0, 0, 0);
        int times = x.node('*', a, x.node('n', 11, 0, 0), 0);
        int[] calls = new int[11];
        for (int i = 0; i < 11; i++) {
            int more = x.node('+', times, x.node('n', i, 0, 0), 0);
            calls[i] = x.node('c', 0, more, x.node('?', b, more, a));
        }
        x.define(x.prepare(0, 1, 1, sum(x, calls, 11)));
        x.define(x.prepare(5, 0, -1, zero));
        int isNever = x.node('c', 5, a, -1);
        int value = a;
        int type = 1;
        for (int i = 0; i < 10; i++) {
            int many = x.node('n', 3000000 * i + 3000001, 0, 0);
            x.define(x.prepare(1, type, -1, x.node('?', isNever, x.node('c', 0, many, isNever), zero)));
            calls[i] = x.node('l', 1, value, -1);
            value = i % 4 == 3 ? x.node('o', i < 5 ? dog : x.named(0, true), a, 0) : x.node('x', value, 0, 0);
            type = i % 4 == 3 ? i < 5 ? dog : x.types() - 1 : x.box(type);
        }
        x.define(x.prepare(2, 1, -1, sum(x, calls, 10)));
        CHECK.due("run", 'v', x.run(2, 1, NO, 1000, true));
        CHECK.due("codes of 2, of 1 and of 5", 1 + 10 + 10, x.codes());
        for (int code = 0; code < 21; code++) {
            CHECK.due("edges of " + code, code % 2 == 1 ? 2 + 16105 : 1, x.edges(code));
        }
        x.define(x.prepare(0, 1, dog, a));
        CHECK.due("the unions of ints meet no dogs", 0, x.stale());
        x.define(x.prepare(0, x.ofInt(2147483647), 1, a));
        CHECK.due("the int is none of those met", 0, x.stale());
        x.define(x.prepare(0, x.ofInt(330000011), 1, a));
        CHECK.due("that is met within the tenth call", 1, x.stale());
    }

    /**
     * What a run has at hand stays what it is while code is made that needs many types: an operand, the two arguments of
     * a call that has no code as its age is not the latest, the argument of a call for which code is made.
     */
    private static void valuesOfOneRun(int way) {
        Worldage x = withManyTypes();
        int dog = 3;
        int cat = x.named(0, true);
        int a = 0;
        int b = 1;
        int one = x.node('n', 1, 0, 0);
        int both = one;
        for (int function = 3; function < 5; function++) {
            int many = x.node('c', 5, x.node('n', 1000000 * function, 0, 0), a);
            int others = x.node('c', 5, x.node('n', 10000000 * function, 0, 0), a);
            x.define(x.prepare(function, 1, -1, x.node('?', a, one, x.node('+', many, others, 0))));
            both = x.node('+', both, x.node('l', function, one, -1), 0);
        }
        int isDog = way == 3 ? both : a;
        int pet = x.node('?', isDog, x.node('o', dog, a, 0), x.node('o', cat, a, 0));
        int box = x.node('x', x.node('x', pet, 0, 0), 0, 0);
        int late = x.node('d', x.prepare(0, 1, 1, a), 0, 0);
        int[] calls = {x.node('c', 2, box, both), x.node('c', 2, box, late), x.node('c', 2, late, box),
            x.node('c', 2, box, -1)};
        int more = x.node('c', 5, x.node('n', 5000000, 0, 0), both);
        int[] bodies = {a, x.node('?', both, a, one), x.node('?', both, b, one), x.node('y', a, more, 0)};
        x.define(x.prepare(1, 1, -1, calls[way]));
        x.define(x.prepare(2, 0, way == 3 ? -1 : 0, bodies[way]));
        CHECK.due("run " + way, 'v', x.run(1, 7, NO, 99, true));
        CHECK.due("codes of 1, 3 and 4, and of 2", way == 1 || way == 2 ? 3 : 4, x.codes());
        CHECK.due("the int, " + way, 7, x.result());
        int type = x.resultType();
        CHECK.due("a box of a box of a dog, " + way, x.box(x.box(dog)), type);
        int met = x.box(x.box(cat));
        x.define(x.prepare(2, way == 2 ? 0 : met, way == 3 ? -1 : way == 2 ? met : 0, a));
        CHECK.due("the edge of 1 has boxes of boxes of both, " + way, 1, x.stale());
    }

    /** Nodes that are shared at each depth, so that the body is a great tree. */
    private static void sharedNodes() {
        Worldage x = new Worldage();
        int a = x.node('a', 0, 0, 0);
        int node = x.node('c', 1, a, -1);
        for (int i = 0; i < 8; i++) {
            node = x.node('?', node, node, node);
        }
        x.define(x.prepare(0, 1, -1, node));
        x.define(x.prepare(1, 1, -1, a));
        for (int i = 0; i < 100; i++) {
            CHECK.due("infer", 1, x.infer(0, 1, -1));
        }
        CHECK.due("same", true, x.isSame(0, 1, NO, 1000));
    }

    /** Two methods that replace each other, as often as the steps of all calls let them. */
    private static void manyAges() {
        Worldage x = new Worldage();
        int a = x.node('a', 0, 0, 0);
        int one = x.node('n', 1, 0, 0);
        x.prepare(1, 1, -1, a);
        x.prepare(1, 1, -1, one);
        int both = x.node('+', x.node('d', 0, 0, 0), x.node('d', 1, 0, 0), 0);
        for (int i = 0; i < 6; i++) {
            both = x.node('+', both, both, 0);
        }
        x.define(x.prepare(0, 1, -1, x.node('+', both, both, 0)));
        for (int i = 0; i < 400; i++) {
            CHECK.due("run", 'v', x.run(0, 1, NO, 1000, true));
        }
        CHECK.due("age", 1 + 400 * 256, x.age());
        CHECK.due("the first", true, x.isThere(0, 2));
        CHECK.due("the second", true, x.isThere(1, 3));
        CHECK.due("the last", true, x.isThere(1, x.age()));
    }
}
