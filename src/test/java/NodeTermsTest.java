import java.util.NoSuchElementException;

/** The document's terms, "Nodes": each sentence that names a limit or an edge, and both sides of it. */
public final class NodeTermsTest {
    private static final Check CHECK = new Check();
    private static final int NO = Integer.MIN_VALUE;

    public static void main(String[] args) {
        hundredAndTwenty();
        depthByEachOperand();
        depthOfLeaves();
        for (int way = 0; way < 2; way++) {
            boolean isByCode = way == 1;
            ints(isByCode);
            roundInts(isByCode);
            othersThanInts(isByCode);
            conditions(isByCode);
            missingArguments(isByCode);
            objectsAndBoxes(isByCode);
            defining(isByCode);
            throwing(isByCode);
            notThrown(isByCode);
            caughtInCalls(isByCode);
            leftToRight(isByCode);
            agesOfCalls(isByCode);
            stepsAllowed(isByCode);
            callsUnderWay(isByCode);
        }
        CHECK.end();
    }

    /** "At most 120 nodes are numbered from 0". */
    private static void hundredAndTwenty() {
        Worldage x = new Worldage();
        for (int i = 0; i < 119; i++) {
            CHECK.due("node", i, x.node('n', i, 0, 0));
        }
        CHECK.throwing("none yet", NoSuchElementException.class, () -> x.prepare(0, 1, -1, 119));
        CHECK.due("the last one", 119, x.node('+', 117, 118, 0));
        CHECK.throwing("one more", IllegalStateException.class, () -> x.node('n', 0, 0, 0));
        CHECK.throwing("one more", IllegalStateException.class, () -> x.node('+', 119, 119, 0));
        CHECK.throwing("there is none", NoSuchElementException.class, () -> x.prepare(0, 1, -1, 120));
        x.define(x.prepare(0, 1, -1, 119));
        CHECK.due("run the last one", 'v', x.run(0, 1, NO, 3, false));
        CHECK.due("of the two before it", 117 + 118, x.result());
    }

    /** "with a depth as that of types, at most 9": 1 more than the greatest depth, whichever operand has it. */
    private static void depthByEachOperand() {
        char[][] all = {{'+', 'a'}, {'+', 'b'}, {'-', 'a'}, {'-', 'b'}, {'*', 'a'}, {'*', 'b'}, {'<', 'a'}, {'<', 'b'},
            {'?', 'a'}, {'?', 'b'}, {'?', 'c'}, {'c', 'b'}, {'c', 'c'}, {'l', 'b'}, {'l', 'c'}, {'o', 'b'}, {'f', 'a'},
            {'x', 'a'}, {'u', 'a'}, {'t', 'a'}, {'y', 'a'}, {'y', 'b'}};
        for (char[] each : all) {
            Worldage x = new Worldage();
            int dog = x.named(0, true);
            int node = x.node('n', 1, 0, 0);
            int[] chain = new int[10];
            for (int depth = 0; depth <= 9; depth++) {
                chain[depth] = node;
                node = depth < 9 ? x.node('f', node, 0, 0) : node;
            }
            String what = each[0] + " by " + each[1];
            for (int depth = 0; depth < 9; depth++) {
                int made = with(x, each, dog, chain[depth]);
                CHECK.due(what + ", room above depth " + depth, 8 - depth, roomAbove(x, made));
            }
            CHECK.throwing(what + ", too deep", IllegalStateException.class, () -> with(x, each, dog, chain[9]));
        }
    }

    /** Tells a node with one operand that is deep; its others are the node 0, if it needs them. */
    private static int with(Worldage x, char[] kindAndPlace, int dog, int deep) {
        char kind = kindAndPlace[0];
        char place = kindAndPlace[1];
        boolean isWithCall = kind == 'c' || kind == 'l';
        int a = isWithCall ? 5 : kind == 'o' ? dog : place == 'a' ? deep : 0;
        int b = place == 'b' ? deep : 0;
        int c = place == 'c' ? deep : isWithCall ? -1 : 0;
        return x.node(kind, a, b, c);
    }

    private static int roomAbove(Worldage x, int node) {
        int top = node;
        for (int more = 0; more < 12; more++) {
            try {
                top = x.node('x', top, 0, 0);
            } catch (IllegalStateException e) {
                return more;
            }
        }
        return 12;
    }

    /** Nodes without operands are 0 deep, whatever else is given; so is what is no operand of others. */
    private static void depthOfLeaves() {
        Worldage x = new Worldage();
        int node = x.node('n', 1, 0, 0);
        for (int depth = 0; depth < 9; depth++) {
            node = x.node('u', node, 0, 0);
        }
        int deep = node;
        CHECK.due("n", 9, roomAbove(x, x.node('n', deep, deep, deep)));
        CHECK.due("a", 9, roomAbove(x, x.node('a', 1, deep, deep)));
        CHECK.due("d", 9, roomAbove(x, x.node('d', deep, deep, deep)));
        CHECK.due("sum", 8, roomAbove(x, x.node('+', 0, 0, deep)));
        CHECK.due("f", 8, roomAbove(x, x.node('f', 0, deep, deep)));
        CHECK.due("y", 8, roomAbove(x, x.node('y', 0, 0, deep)));
        int dog = x.named(0, true);
        CHECK.due("o", 8, roomAbove(x, x.node('o', dog, 0, deep)));
    }

    /** Runs a body alone for some ints. */
    private static char ends(Worldage x, int body, int first, int second, boolean isByCode) {
        int method = x.prepare(5, 0, second == NO ? -1 : 0, body);
        x.define(method);
        char end = x.run(5, first, second, 1000, isByCode);
        x.takeAway(method);
        return end;
    }

    private static void value(Worldage x, int due, int body, int first, int second, boolean isByCode) {
        CHECK.due("end of " + body + " with " + first, 'v', ends(x, body, first, second, isByCode));
        CHECK.due("result of " + body + " with " + first, due, x.result());
    }

    /** "'n' the int a. 'a' the argument a, 0 or 1." */
    private static void ints(boolean by) {
        Worldage x = new Worldage();
        for (int n : new int[] {0, 1, -1, Integer.MAX_VALUE, Integer.MIN_VALUE}) {
            value(x, n, x.node('n', n, -5, 500), 1, NO, by);
            value(x, n, x.node('a', 0, -5, 500), n, NO, by);
            value(x, n, x.node('a', 0, -5, 500), n, 3, by);
            if (n != NO) {
                value(x, n, x.node('a', 1, -5, 500), 3, n, by);
            }
        }
    }

    /** "ints, which go round, 1 or 0 for less". */
    private static void roundInts(boolean by) {
        Worldage x = new Worldage();
        int a = x.node('a', 0, 0, 0);
        int b = x.node('a', 1, 0, 0);
        int most = Integer.MAX_VALUE;
        int[] sum = {most, 1, NO, NO, -1, most, most, most, -2, 0, 0, 0, NO + 1, -2, most};
        int[] difference = {NO, 1, most, most, -1, NO, 0, most, NO + 1, -2, most, most, NO, NO + 1, -1};
        int[] product = {most, 2, -2, NO, -1, NO, 65536, 65536, 0, most, most, 1, NO, most, NO, 0, 5, 0};
        int[] less = {NO, most, 1, most, NO + 1, 0, NO, NO + 1, 1, 0, 0, 0, -1, 0, 1, 0, -1, 0, most, most, 0,
            NO, 0, 1, 3, 4, 1, 4, 3, 0};
        work(x, x.node('+', a, b, 0), sum, by);
        work(x, x.node('-', a, b, 0), difference, by);
        work(x, x.node('*', a, b, 0), product, by);
        int isLess = x.node('<', a, b, 0);
        work(x, isLess, less, by);
        int least = x.node('n', NO, 0, 0);
        value(x, 1, x.node('<', least, a, 0), NO + 1, NO, by);
        value(x, 0, x.node('<', a, least, 0), NO, NO, by);
        value(x, NO, x.node('-', x.node('n', 0, 0, 0), least, 0), 1, NO, by);
        value(x, 0, x.node('+', least, least, 0), 1, NO, by);
    }

    private static void work(Worldage x, int body, int[] threes, boolean by) {
        int method = x.prepare(5, 0, 0, body);
        x.define(method);
        for (int i = 0; i < threes.length; i += 3) {
            if (threes[i + 1] != NO) {
                CHECK.due("end", 'v', x.run(5, threes[i], threes[i + 1], 9, by));
                CHECK.due("node " + body + " of " + threes[i] + " and " + threes[i + 1], threes[i + 2], x.result());
            }
        }
        x.takeAway(method);
    }

    /** "error 't' for others", at either place. */
    private static void othersThanInts(boolean by) {
        for (char kind : new char[] {'+', '-', '*', '<'}) {
            Worldage x = new Worldage();
            int dog = x.named(0, true);
            int a = x.node('a', 0, 0, 0);
            int object = x.node('o', dog, a, 0);
            int box = x.node('x', a, 0, 0);
            int[][] wrong = {{object, a}, {a, object}, {box, a}, {a, box}, {object, object}, {box, box}};
            for (int[] pair : wrong) {
                CHECK.due(kind + " of others", 'e', ends(x, x.node(kind, pair[0], pair[1], 0), 1, NO, by));
                CHECK.throwing("no result", NoSuchElementException.class, x::result);
            }
        }
    }

    /** "'?' the node b if the node a is an int other than 0, c if it is 0; error 't' for others." */
    private static void conditions(boolean by) {
        Worldage x = new Worldage();
        int dog = x.named(0, true);
        int a = x.node('a', 0, 0, 0);
        int seven = x.node('n', 7, 0, 0);
        int eight = x.node('n', 8, 0, 0);
        int choice = x.node('?', a, seven, eight);
        int[] ints = {0, 1, -1, 2, Integer.MAX_VALUE, Integer.MIN_VALUE};
        for (int n : ints) {
            value(x, n == 0 ? 8 : 7, choice, n, NO, by);
            CHECK.due("the other one is not done", 3, x.steps());
        }
        int object = x.node('o', dog, a, 0);
        int box = x.node('x', a, 0, 0);
        CHECK.due("an object", 'e', ends(x, x.node('?', object, seven, eight), 1, NO, by));
        CHECK.due("an object with 0", 'e', ends(x, x.node('?', object, seven, eight), 0, NO, by));
        CHECK.due("a box", 'e', ends(x, x.node('?', box, seven, eight), 1, NO, by));
        CHECK.due("neither is done", 3, x.steps());
    }

    /** "an argument that the call does not have is error 't'". */
    private static void missingArguments(boolean by) {
        Worldage x = new Worldage();
        int a = x.node('a', 0, 0, 0);
        int b = x.node('a', 1, 0, 0);
        CHECK.due("it has none", 'e', ends(x, b, 1, NO, by));
        CHECK.due("one step", 1, x.steps());
        value(x, 0, b, 1, 0, by);
        x.define(x.prepare(0, 1, -1, b));
        CHECK.due("its caller has two", 'e', ends(x, x.node('c', 0, a, -1), 1, 2, by));
        x.define(x.prepare(0, 1, 1, b));
        value(x, 2, x.node('c', 0, a, b), 1, 2, by);
        value(x, 1, x.node('c', 0, b, a), 1, 2, by);
        ofOtherTypes(by);
    }

    /** Each argument has its own type and its own int. */
    private static void ofOtherTypes(boolean by) {
        Worldage x = new Worldage();
        int dog = x.named(0, true);
        int a = x.node('a', 0, 0, 0);
        int b = x.node('a', 1, 0, 0);
        int object = x.node('o', dog, a, 0);
        x.define(x.prepare(0, 0, 0, x.node('f', b, 0, 0)));
        x.define(x.prepare(1, 0, 0, x.node('f', a, 0, 0)));
        value(x, 8, x.node('c', 0, b, object), 8, 9, by);
        value(x, 8, x.node('c', 1, object, b), 8, 9, by);
        CHECK.due("the second one is no object", 'e', ends(x, x.node('c', 0, object, b), 8, 9, by));
        CHECK.due("the first one is no object", 'e', ends(x, x.node('c', 1, b, object), 8, 9, by));
    }

    /** 'o', 'f', 'x' and 'u': "error 't' for others", and boxes that would be too deep. */
    private static void objectsAndBoxes(boolean by) {
        Worldage x = new Worldage();
        int dog = x.named(0, true);
        int cat = x.named(0, true);
        int a = x.node('a', 0, 0, 0);
        int object = x.node('o', dog, a, 0);
        int box = x.node('x', a, 0, 0);
        int boxedObject = x.node('x', object, 0, 0);
        int[] wrong = {x.node('o', cat, object, 0), x.node('o', cat, box, 0), x.node('f', a, 0, 0),
            x.node('f', box, 0, 0), x.node('f', boxedObject, 0, 0), x.node('u', a, 0, 0), x.node('u', object, 0, 0)};
        for (int body : wrong) {
            CHECK.due("error of " + body, 'e', ends(x, body, 3, NO, by));
        }
        int taken = x.node('f', x.node('u', boxedObject, 0, 0), 0, 0);
        value(x, NO, taken, NO, NO, by);
        value(x, 3, x.node('o', cat, taken, 0), 3, NO, by);
        CHECK.due("its type", cat, x.resultType());
        int deep = x.node('x', x.node('x', x.node('x', boxedObject, 0, 0), 0, 0), 0, 0);
        CHECK.due("four boxes", 'v', ends(x, deep, 3, NO, by));
        CHECK.due("five boxes", 'e', ends(x, x.node('x', deep, 0, 0), 3, NO, by));
        CHECK.due("four again", 'v', ends(x, x.node('x', x.node('u', deep, 0, 0), 0, 0), 3, NO, by));
    }

    /** "'d' defines the method a, and is the age then; error 'd' if this cannot be done." */
    private static void defining(boolean by) {
        Worldage x = new Worldage();
        int a = x.node('a', 0, 0, 0);
        x.prepare(0, 1, -1, a);
        x.prepare(0, 1, -1, a);
        x.define(x.prepare(1, 1, -1, x.node('d', 0, 0, 0)));
        x.define(x.prepare(2, 1, -1, x.node('d', 1, 0, 0)));
        CHECK.due("one that is not there", 'v', x.run(1, 1, NO, 9, by));
        CHECK.due("the age then", 3, x.result());
        CHECK.due("its type", 1, x.resultType());
        CHECK.due("the age", 3, x.age());
        CHECK.due("it is there", true, x.isThere(0, 3));
        CHECK.due("one that is there", 'e', x.run(1, 1, NO, 9, by));
        CHECK.due("the age is as before", 3, x.age());
        CHECK.due("one with the same types", 'v', x.run(2, 1, NO, 9, by));
        CHECK.due("one age for both", 4, x.result());
        CHECK.due("the first is gone", false, x.isThere(0, 4));
        x.takeAway(1);
        CHECK.due("one that was taken away", 'v', x.run(2, 1, NO, 9, by));
        CHECK.due("age", 6, x.result());
        notPrepared(by);
    }

    /** A method that is not prepared cannot be defined, the next number as little as the last one. */
    private static void notPrepared(boolean by) {
        Worldage x = new Worldage();
        int a = x.node('a', 0, 0, 0);
        x.define(x.prepare(0, 1, -1, x.node('d', 2, 0, 0)));
        x.define(x.prepare(1, 1, -1, x.node('d', 39, 0, 0)));
        CHECK.due("the next one", 'e', x.run(0, 1, NO, 9, by));
        CHECK.due("the last one", 'e', x.run(1, 1, NO, 9, by));
        CHECK.due("one step", 1, x.steps());
        CHECK.due("the age is as before", 2, x.age());
        CHECK.due("prepared", 2, x.prepare(0, 1, -1, x.node('d', 0, 0, 0)));
        CHECK.due("now it can be done", 'v', x.run(0, 1, NO, 9, by));
        CHECK.due("age", 3, x.result());
        CHECK.due("it took the place of what defined it", false, x.isThere(0, 3));
        CHECK.due("which can be defined by it", 'v', x.run(0, 1, NO, 9, by));
        CHECK.due("and is there again", true, x.isThere(0, 4));
        for (int method = 3; method < 40; method++) {
            x.prepare(2, 1, -1, a);
        }
        CHECK.due("the 40th", 'v', x.run(1, 1, NO, 9, by));
        CHECK.due("age", 5, x.result());
        CHECK.due("is there", 'v', x.run(2, 1, NO, 9, by));
    }

    /**
     * "'t' throws the node a, an int; error 't' for others"; "A run is over .. with 't', if something is thrown and not
     * caught".
     */
    private static void throwing(boolean by) {
        Worldage x = new Worldage();
        int dog = x.named(0, true);
        int a = x.node('a', 0, 0, 0);
        int thrown = x.node('t', a, 0, 0);
        for (int n : new int[] {0, 1, -1, Integer.MAX_VALUE, Integer.MIN_VALUE}) {
            CHECK.due("thrown", 't', ends(x, thrown, n, NO, by));
            CHECK.due("the int", n, x.result());
            CHECK.throwing("it is no value", NoSuchElementException.class, x::resultType);
        }
        int object = x.node('t', x.node('o', dog, a, 0), 0, 0);
        int box = x.node('t', x.node('x', a, 0, 0), 0, 0);
        CHECK.due("an object", 'e', ends(x, object, 1, NO, by));
        CHECK.due("a box", 'e', ends(x, box, 1, NO, by));
        CHECK.throwing("no int", NoSuchElementException.class, x::result);
        int nine = x.node('n', 9, 0, 0);
        value(x, 9, x.node('y', thrown, nine, 0), 4, NO, by);
        CHECK.due("y, t, a, n", 4, x.steps());
        value(x, 4, x.node('y', a, x.node('t', nine, 0, 0), 0), 4, NO, by);
        CHECK.due("y and a", 2, x.steps());
        CHECK.due("thrown in b", 't', ends(x, x.node('y', thrown, x.node('t', nine, 0, 0), 0), 4, NO, by));
        CHECK.due("what was thrown last", 9, x.result());
        CHECK.due("what throws throws", 't', ends(x, x.node('t', thrown, 0, 0), 4, NO, by));
        value(x, 9, x.node('y', x.node('y', thrown, thrown, 0), nine, 0), 4, NO, by);
    }

    /** "errors are not thrown": y catches none of them, nor that the steps or the calls are over. */
    private static void notThrown(boolean by) {
        Worldage x = new Worldage();
        int dog = x.named(0, true);
        int a = x.node('a', 0, 0, 0);
        int nine = x.node('n', 9, 0, 0);
        int object = x.node('o', dog, a, 0);
        int self = x.node('c', 1, a, -1);
        x.define(x.prepare(1, 1, -1, self));
        x.define(x.prepare(2, x.union(1, dog), -1, a));
        x.define(x.prepare(2, x.union(dog, 1), -1, a));
        int[] nodes = {x.node('+', object, a, 0), x.node('u', a, 0, 0), x.node('d', 39, 0, 0), x.node('a', 1, 0, 0),
            x.node('t', object, 0, 0), x.node('c', 0, a, -1), x.node('l', 0, a, -1), x.node('c', 2, a, -1), self};
        char[] due = {'e', 'e', 'e', 'e', 'e', 'n', 'n', 'a', 's'};
        for (int i = 0; i < nodes.length; i++) {
            CHECK.due("node " + i, due[i], ends(x, nodes[i], 4, NO, by));
            CHECK.due("node " + i + " in y", due[i], ends(x, x.node('y', nodes[i], nine, 0), 4, NO, by));
            CHECK.throwing("no result", NoSuchElementException.class, x::result);
        }
        int thrown = x.node('y', x.node('t', a, 0, 0), nine, 0);
        x.define(x.prepare(3, 1, -1, thrown));
        CHECK.due("no step for b", 's', x.run(3, 1, NO, 3, by));
        CHECK.due("one step more", 'v', x.run(3, 1, NO, 4, by));
    }

    /** What is thrown ends the calls on its way, and no others: the innermost y has it. */
    private static void caughtInCalls(boolean by) {
        Worldage x = new Worldage();
        int a = x.node('a', 0, 0, 0);
        int one = x.node('n', 1, 0, 0);
        int ten = x.node('n', 10, 0, 0);
        int less = x.node('-', a, one, 0);
        int self = x.node('c', 0, less, -1);
        x.define(x.prepare(0, 1, -1, x.node('?', a, self, x.node('t', ten, 0, 0))));
        int deep = x.node('c', 0, a, -1);
        CHECK.due("from 19 calls", 't', ends(x, deep, 17, NO, by));
        CHECK.due("thrown", 10, x.result());
        int caught = x.node('y', deep, a, 0);
        int twice = x.node('+', caught, caught, 0);
        value(x, 36, twice, 18, NO, by);
        CHECK.due("the 21st call is over, not thrown", 's', ends(x, twice, 19, NO, by));
        x.define(x.prepare(1, 1, -1, caught));
        value(x, 6 + 6, x.node('+', a, x.node('y', x.node('c', 1, a, -1), ten, 0), 0), 6, NO, by);
        int pending = x.node('*', ten, x.node('y', x.node('+', one, deep, 0), a, 0), 0);
        value(x, 70, pending, 7, NO, by);
    }

    /** "Operands are done from the left to the right". */
    private static void leftToRight(boolean by) {
        Worldage x = new Worldage();
        int a = x.node('a', 0, 0, 0);
        int[] thrown = new int[3];
        for (int i = 0; i < 3; i++) {
            thrown[i] = x.node('t', x.node('n', i, 0, 0), 0, 0);
        }
        x.define(x.prepare(0, 0, 0, a));
        int[] nodes = {x.node('+', thrown[1], thrown[2], 0), x.node('-', thrown[1], thrown[2], 0),
            x.node('*', thrown[1], thrown[2], 0), x.node('<', thrown[1], thrown[2], 0),
            x.node('?', thrown[1], thrown[2], thrown[0]), x.node('c', 0, thrown[1], thrown[2]),
            x.node('l', 0, thrown[1], thrown[2]), x.node('+', a, thrown[1], 0), x.node('c', 0, a, thrown[1]),
            x.node('l', 3, a, thrown[1])};
        for (int node : nodes) {
            CHECK.due("thrown by the leftmost", 't', ends(x, node, 5, NO, by));
            CHECK.due("which is 1", 1, x.result());
        }
        int missing = x.node('a', 1, 0, 0);
        CHECK.due("an error on the left", 'e', ends(x, x.node('+', missing, thrown[1], 0), 5, NO, by));
        CHECK.due("thrown on the left", 't', ends(x, x.node('+', thrown[1], missing, 0), 5, NO, by));
        int first = x.prepare(4, 1, -1, a);
        int second = x.prepare(4, 0, -1, a);
        int hundred = x.node('n', 100, 0, 0);
        int ages = x.node('+', x.node('*', x.node('d', first, 0, 0), hundred, 0), x.node('d', second, 0, 0), 0);
        int age = x.age() + 1;
        value(x, (age + 1) * 100 + age + 2, ages, 5, NO, by);
    }

    /** "What a call does has its age, and calls from it have the same age, but for 'l'". */
    private static void agesOfCalls(boolean by) {
        Worldage x = new Worldage();
        int a = x.node('a', 0, 0, 0);
        int seven = x.node('n', 7, 0, 0);
        int old = x.prepare(0, 1, -1, a);
        int fresh = x.prepare(0, 1, -1, seven);
        int early = x.node('c', 0, a, -1);
        int defined = x.node('d', fresh, 0, 0);
        x.define(old);
        x.define(x.prepare(1, 1, -1, early));
        int both = x.node('+', x.node('*', x.node('n', 1000, 0, 0), defined, 0), x.node('c', 1, a, -1), 0);
        x.define(x.prepare(2, 1, -1, both));
        CHECK.due("c in c", 'v', x.run(2, 3, NO, 99, by));
        CHECK.due("by the age of the run", 4003, x.result());
        x.define(old);
        int late = x.node('+', x.node('*', x.node('n', 1000, 0, 0), defined, 0), x.node('l', 1, a, -1), 0);
        x.define(x.prepare(3, 1, -1, late));
        CHECK.due("c in l", 'v', x.run(3, 3, NO, 99, by));
        CHECK.due("by the latest age", 7007, x.result());
        x.define(old);
        int through = x.node('l', 4, a, -1);
        x.define(x.prepare(4, 1, -1, x.node('+', defined, early, 0)));
        x.define(x.prepare(5, 1, -1, x.node('+', through, early, 0)));
        CHECK.due("defined within l", 'v', x.run(5, 3, NO, 99, by));
        CHECK.due("age 11, and the old one twice", 11 + 3 + 3, x.result());
        CHECK.due("a run begins at the latest age", 'v', x.run(0, 3, NO, 99, by));
        CHECK.due("the new one", 7, x.result());
    }

    /** A body of so many steps, all of which are done. */
    private static int sized(Worldage x, int steps) {
        if (steps == 1) {
            return 0;
        }
        if (steps == 2) {
            return x.node('y', 0, 0, 0);
        }
        int full = 1;
        int node = 0;
        while (2 * full + 1 <= steps - 2) {
            node = x.node('+', node, node, 0);
            full = 2 * full + 1;
        }
        return x.node('+', node, sized(x, steps - 1 - full), 0);
    }

    /** "Each node that is begun is a step. A run is over with 's', if more steps would be done than allowed". */
    private static void stepsAllowed(boolean by) {
        long all = 0;
        for (int steps : new int[] {1, 2, 3, 4, 5, 10, 511, 512, 999, 1000}) {
            Worldage x = new Worldage();
            x.node('n', 1, 0, 0);
            x.define(x.prepare(0, 1, -1, sized(x, steps)));
            CHECK.due(steps + " allowed", 'v', x.run(0, 1, NO, steps, by));
            CHECK.due("steps", steps, x.steps());
            CHECK.due("a thousand allowed", 'v', x.run(0, 1, NO, 1000, by));
            CHECK.due("steps", steps, x.steps());
            if (steps > 1) {
                CHECK.due("one less than " + steps, 's', x.run(0, 1, NO, steps - 1, by));
                CHECK.due("those that were done", steps - 1, x.steps());
                CHECK.throwing("no result", NoSuchElementException.class, x::result);
                CHECK.due("one allowed", 's', x.run(0, 1, NO, 1, by));
                CHECK.due("one done", 1, x.steps());
            }
            CHECK.due("all", steps == 1 ? 2 : 3 * steps, x.allSteps());
            all += x.allSteps();
        }
        CHECK.due("all of all", 2 + 3 * (2 + 3 + 4 + 5 + 10 + 511 + 512 + 999 + 1000), all);
        Worldage x = new Worldage();
        x.node('n', 1, 0, 0);
        x.define(x.prepare(0, 1, -1, sized(x, 1001)));
        CHECK.due("one more than a thousand", 's', x.run(0, 1, NO, 1000, by));
        CHECK.due("a thousand", 1000, x.steps());
        CHECK.due("no method, no step", 'n', x.run(1, 1, NO, 1, by));
        CHECK.due("none", 0, x.steps());
        CHECK.due("no step more", 1000, x.allSteps());
    }

    /** "or more than 20 calls would be under way, that with which it begins included". */
    private static void callsUnderWay(boolean by) {
        for (char kind : new char[] {'c', 'l'}) {
            Worldage x = new Worldage();
            int a = x.node('a', 0, 0, 0);
            int one = x.node('n', 1, 0, 0);
            int less = x.node('-', a, one, 0);
            x.define(x.prepare(0, 1, -1, x.node('?', a, x.node(kind, 0, less, -1), one)));
            CHECK.due("20 calls by " + kind, 'v', x.run(0, 19, NO, 1000, by));
            CHECK.due("21 calls by " + kind, 's', x.run(0, 20, NO, 1000, by));
            CHECK.due("without end", 's', x.run(0, -1, NO, 1000, by));
            int outer = x.node(kind, 0, x.node(kind, 0, a, -1), -1);
            x.define(x.prepare(1, 1, -1, outer));
            CHECK.due("a call in an argument is over first", 'v', x.run(1, 18, NO, 1000, by));
            CHECK.due("one too many", 's', x.run(1, 19, NO, 1000, by));
            int method = x.prepare(2, 1, -1, x.node('+', outer, outer, 0));
            x.define(method);
            CHECK.due("one after the other", 'v', x.run(2, 18, NO, 1000, by));
            int nothing = x.node(kind, 5, a, -1);
            x.define(x.prepare(3, 1, -1, x.node('?', a, x.node(kind, 3, less, -1), nothing)));
            CHECK.due("the 20th has no method", 'n', x.run(3, 18, NO, 1000, by));
            CHECK.due("the 21st is over before it is looked for", 's', x.run(3, 19, NO, 1000, by));
        }
    }
}
