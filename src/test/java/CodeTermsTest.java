/** The document's terms, "Code": each sentence that names a limit or an edge, and both sides of it. */
public final class CodeTermsTest {
    private static final Check CHECK = new Check();
    private static final int NO = Integer.MIN_VALUE;

    public static void main(String[] args) {
        typesOfArguments();
        methodOfCode();
        methodOfTwo();
        fixedOrNone();
        fixedByTwo();
        fixedByOneInt();
        notMet();
        eachNodeOnce();
        edgesOfCalls();
        edgesWithoutMethod();
        edgesOnce();
        edgesWithinSix();
        edgesOfTheLastRound();
        notEndedFixed();
        notEndedEdges();
        notEndedWithoutMethod();
        staleByPlaces();
        staleByComing();
        staleFromAnAgeOn();
        madeAgain();
        takenOrMade();
        fixedMethodFirst();
        withoutAnyOtherwise();
        sixtyCodes();
        rowsAreMadeNew();
        goneUnderWay();
        CHECK.end();
    }

    /** "Code is for a function and types of values as arguments." */
    private static void typesOfArguments() {
        Worldage x = new Worldage();
        int dog = x.named(0, true);
        int a = x.node('a', 0, 0, 0);
        int object = x.node('o', dog, a, 0);
        int box = x.node('x', a, 0, 0);
        x.define(x.prepare(0, 0, -1, a));
        x.define(x.prepare(0, 0, 0, a));
        int[] firsts = {a, object, box, a, object, a, box};
        int[] seconds = {-1, -1, -1, a, a, object, box};
        for (int i = 0; i < firsts.length; i++) {
            int method = x.prepare(1, 1, -1, x.node('c', 0, firsts[i], seconds[i]));
            x.define(method);
            x.run(1, 5, NO, 99, true);
            CHECK.due("one more for the call and for what it calls", 2 * i + 2, x.codes());
            x.run(1, 6, NO, 99, true);
            x.run(1, Integer.MAX_VALUE, NO, 99, true);
            CHECK.due("another int, no other code", 2 * i + 2, x.codes());
        }
    }

    /** The method of the code that a call with an int makes, when these types are those of function 0's parameters. */
    private static int methodFor(Worldage x, int[] types) {
        int before = x.codes();
        int[] methods = new int[types.length];
        for (int i = 0; i < types.length; i++) {
            methods[i] = x.prepare(0, types[i], -1, 0);
            x.define(methods[i]);
        }
        x.run(0, 5, NO, 9, true);
        CHECK.due("one code", before + 1, x.codes());
        int answer = x.methodOf(before);
        int place = -1;
        for (int i = 0; i < types.length; i++) {
            place = methods[i] == answer ? i : place;
            x.takeAway(methods[i]);
        }
        CHECK.due("one of these, or none", answer < 0 ? -1 : methods[Math.max(0, place)], answer);
        return place;
    }

    /**
     * "if among the methods that are there .., one has types above all .., and no other one meets them; otherwise
     * none".
     */
    private static void methodOfCode() {
        Worldage x = new Worldage();
        int dog = x.named(0, true);
        int five = x.ofInt(5);
        x.node('a', 0, 0, 0);
        CHECK.due("no methods", -1, methodFor(x, new int[] {}));
        CHECK.due("the ints", 0, methodFor(x, new int[] {1}));
        CHECK.due("all", 0, methodFor(x, new int[] {0}));
        CHECK.due("a union with the ints", 0, methodFor(x, new int[] {x.union(dog, 1)}));
        CHECK.due("others that do not meet", 1, methodFor(x, new int[] {dog, 1, x.box(1)}));
        CHECK.due("only some ints", -1, methodFor(x, new int[] {five}));
        CHECK.due("some ints meet", -1, methodFor(x, new int[] {1, five}));
        CHECK.due("a union with some ints meets", -1, methodFor(x, new int[] {x.union(dog, five), 1}));
        CHECK.due("two above, though one is below the other", -1, methodFor(x, new int[] {0, 1}));
        CHECK.due("2 meets none", 1, methodFor(x, new int[] {2, 1}));
        CHECK.due("a union of 2 and 2 meets", -1, methodFor(x, new int[] {1, x.union(2, 2)}));
        CHECK.due("none is above", -1, methodFor(x, new int[] {dog}));
    }

    /** The same by two arguments; those with one parameter and those of other functions do not count. */
    private static void methodOfTwo() {
        Worldage x = new Worldage();
        int dog = x.named(0, true);
        int five = x.ofInt(5);
        int a = x.node('a', 0, 0, 0);
        x.define(x.prepare(0, 1, -1, a));
        x.define(x.prepare(1, 1, 1, a));
        int[][] kinds = {{1, 1}, {dog, 1}, {1, dog}, {five, dog}, {dog, 0}, {five, 1}, {1, five}};
        int[] due = {2, 2, 2, 2, 2, -1, -1};
        for (int i = 0; i < kinds.length; i++) {
            x.define(x.prepare(0, kinds[i][0], kinds[i][1], a));
            x.run(0, 5, 5, 9, true);
            CHECK.due("with " + (i + 1), due[i], x.methodOf(x.codes() - 1));
        }
        CHECK.due("those that do not meet make no code stale", 3, x.codes());
        CHECK.due("the other two do", 2, x.stale());
        x.run(0, 5, NO, 9, true);
        CHECK.due("one argument", 0, x.methodOf(x.codes() - 1));
    }

    /** How many nodes have a fixed method in the code of a call of function 5 with an int and this body. */
    private static int fixedIn(Worldage x, int body) {
        int method = x.prepare(5, 1, -1, body);
        x.define(method);
        int code = x.codes();
        x.run(5, 5, NO, 1, true);
        CHECK.due("code", code + 1, x.codes());
        CHECK.due("its method", method, x.methodOf(code));
        int fixed = x.fixed(code);
        x.takeAway(method);
        return fixed;
    }

    /** "For each node 'c' in the method's body .. a fixed method, or none; none too if an argument is 2". */
    private static void fixedOrNone() {
        Worldage x = new Worldage();
        int dog = x.named(0, true);
        int a = x.node('a', 0, 0, 0);
        int thrown = x.node('t', a, 0, 0);
        int object = x.node('o', dog, a, 0);
        int call = x.node('c', 0, a, -1);
        CHECK.due("no method", 0, fixedIn(x, call));
        x.define(x.prepare(0, 0, -1, a));
        x.define(x.prepare(0, 0, 0, a));
        CHECK.due("one", 1, fixedIn(x, call));
        CHECK.due("l", 0, fixedIn(x, x.node('l', 0, a, -1)));
        CHECK.due("with nothing", 0, fixedIn(x, x.node('c', 0, thrown, -1)));
        CHECK.due("first with nothing", 0, fixedIn(x, x.node('c', 0, thrown, a)));
        CHECK.due("second with nothing", 0, fixedIn(x, x.node('c', 0, a, thrown)));
        CHECK.due("with two", 1, fixedIn(x, x.node('c', 0, a, a)));
        int maybe = x.node('?', a, a, object);
        x.define(x.prepare(1, 1, -1, a));
        CHECK.due("ints", 1, fixedIn(x, x.node('c', 1, a, -1)));
        CHECK.due("ints or objects", 0, fixedIn(x, x.node('c', 1, maybe, -1)));
        CHECK.due("objects", 0, fixedIn(x, x.node('c', 1, object, -1)));
        x.define(x.prepare(1, dog, -1, a));
        CHECK.due("objects too, each by its own", 1, fixedIn(x, x.node('c', 1, object, -1)));
        CHECK.due("ints or objects, by two", 0, fixedIn(x, x.node('c', 1, maybe, -1)));
        CHECK.due("a call in a call", 2, fixedIn(x, x.node('c', 1, call, -1)));
        CHECK.due("in the operands of o, l and f", 3, fixedIn(x, x.node('y', x.node('o', dog, call, 0),
                x.node('l', 0, x.node('c', 0, a, a), x.node('f', x.node('c', 1, object, -1), 0, 0)), 0)));
    }

    private static void fixedByTwo() {
        Worldage x = new Worldage();
        int dog = x.named(0, true);
        int a = x.node('a', 0, 0, 0);
        int object = x.node('o', dog, a, 0);
        int[] calls = {x.node('c', 0, a, a), x.node('c', 0, a, object), x.node('c', 0, object, a),
            x.node('c', 0, object, object)};
        int[][] kinds = {{1, dog}, {1, 1}, {dog, 0}, {0, dog}};
        int[][] due = {{0, 1, 0, 0}, {1, 1, 0, 0}, {1, 1, 1, 1}, {1, 0, 1, 0}};
        for (int i = 0; i < kinds.length; i++) {
            x.define(x.prepare(0, kinds[i][0], kinds[i][1], a));
            for (int call = 0; call < 4; call++) {
                CHECK.due("call " + call + " by " + (i + 1), due[i][call], fixedIn(x, calls[call]));
            }
        }
    }

    /** A call with a type of one int has a fixed method though values of all ints have not the same one. */
    private static void fixedByOneInt() {
        Worldage x = new Worldage();
        int a = x.node('a', 0, 0, 0);
        int five = x.node('n', 5, 0, 0);
        int six = x.node('n', 6, 0, 0);
        int sum = x.node('+', five, x.node('n', 1, 0, 0), 0);
        x.define(x.prepare(0, x.ofInt(5), -1, a));
        CHECK.due("5", 1, fixedIn(x, x.node('c', 0, five, -1)));
        CHECK.due("6", 0, fixedIn(x, x.node('c', 0, six, -1)));
        CHECK.due("an int", 0, fixedIn(x, x.node('c', 0, a, -1)));
        x.define(x.prepare(0, x.ofInt(6), -1, a));
        CHECK.due("6 that is 5 and 1", 1, fixedIn(x, x.node('c', 0, sum, -1)));
        CHECK.due("5 or 6", 0, fixedIn(x, x.node('c', 0, x.node('?', a, five, six), -1)));
        x.define(x.prepare(0, 1, -1, a));
        CHECK.due("5, with two that meet", 0, fixedIn(x, x.node('c', 0, five, -1)));
        CHECK.due("7", 1, fixedIn(x, x.node('c', 0, x.node('n', 7, 0, 0), -1)));
    }

    /** "if this 'c' was not met then": in a branch that is not reached, or behind a condition that is no int. */
    private static void notMet() {
        Worldage x = new Worldage();
        int dog = x.named(0, true);
        int a = x.node('a', 0, 0, 0);
        int one = x.node('n', 1, 0, 0);
        int object = x.node('o', dog, a, 0);
        int none = x.node('t', a, 0, 0);
        int call = x.node('c', 0, a, -1);
        int other = x.node('c', 0, one, -1);
        x.define(x.prepare(0, 0, -1, a));
        CHECK.due("the branch of 1", 1, fixedIn(x, x.node('?', one, call, x.node('+', call, other, 0))));
        CHECK.due("that of 0", 2, fixedIn(x, x.node('?', x.node('-', one, one, 0), call, x.node('+', call, other, 0))));
        CHECK.due("both", 2, fixedIn(x, x.node('?', a, call, other)));
        CHECK.due("neither, for an object", 0, fixedIn(x, x.node('?', object, call, other)));
        CHECK.due("neither, for nothing", 0, fixedIn(x, x.node('?', none, call, other)));
        CHECK.due("behind what throws", 1, fixedIn(x, x.node('+', none, call, 0)));
        CHECK.dueDouble("nodes that are not met count as nodes", (float) (1 + 2 + 2 + 0 + 0 + 1) / (float) (2 * 5 + 1),
                x.fixedShare());
    }

    /** A node that is an operand of several others is one node; two nodes that are alike are two. */
    private static void eachNodeOnce() {
        Worldage x = new Worldage();
        int a = x.node('a', 0, 0, 0);
        int call = x.node('c', 0, a, -1);
        int alike = x.node('c', 0, a, -1);
        x.define(x.prepare(0, 0, -1, a));
        CHECK.due("twice the same", 1, fixedIn(x, x.node('+', call, call, 0)));
        CHECK.due("two", 2, fixedIn(x, x.node('+', call, alike, 0)));
        CHECK.due("one in the other", 2, fixedIn(x, x.node('+', x.node('c', 0, call, -1), call, 0)));
        CHECK.dueDouble("all", 1f, x.fixedShare());
    }

    /** The edges of the code of a call of function 5 with an int. */
    private static int edgesOf(Worldage x) {
        int code = x.codes();
        x.run(5, 5, NO, 1, true);
        CHECK.due("code", code + 1, x.codes());
        return x.edges(code);
    }

    /** "the function with its own types, and each call that was found in the last round, with its types". */
    private static void edgesOfCalls() {
        Worldage x = new Worldage();
        int a = x.node('a', 0, 0, 0);
        int one = x.node('n', 1, 0, 0);
        int zero = x.node('n', 0, 0, 0);
        int thrown = x.node('t', a, 0, 0);
        x.define(x.prepare(1, 0, -1, x.node('c', 2, a, a)));
        int[] bodies = {a, x.node('c', 0, a, -1), x.node('c', 1, a, -1), x.node('c', 0, thrown, -1),
            x.node('?', zero, x.node('c', 0, a, -1), a), x.node('l', 0, a, -1), x.node('c', 5, a, -1),
            x.node('c', 5, one, -1), x.node('c', 0, x.node('c', 1, one, -1), -1), x.node('c', 0, a, thrown),
            x.node('c', 0, thrown, a), x.node('c', 0, a, one)};
        int[] due = {1, 2, 3, 1, 1, 1, 1, 2, 3, 1, 1, 2};
        for (int i = 0; i < bodies.length; i++) {
            int method = x.prepare(5, 1, -1, bodies[i]);
            x.define(method);
            CHECK.due("body " + i, due[i], edgesOf(x));
            x.takeAway(method);
        }
        CHECK.due("no method", 1, edgesOf(x));
    }

    /** Code without a method has the edges of what its call can choose. */
    private static void edgesWithoutMethod() {
        Worldage x = new Worldage();
        int a = x.node('a', 0, 0, 0);
        x.define(x.prepare(5, 1, -1, x.node('c', 1, a, -1)));
        CHECK.due("one", 2, edgesOf(x));
        x.define(x.prepare(5, x.ofInt(3), -1, x.node('c', 1, a, -1)));
        CHECK.due("and one with 3", 3, edgesOf(x));
        CHECK.due("no method", -1, x.methodOf(1));
        x.define(x.prepare(1, x.ofInt(3), -1, a));
        CHECK.due("stale", 2, x.stale());
    }

    /** "Returns how many edges a code has, each once": calls differ by their function, and by each of their types. */
    private static void edgesOnce() {
        Worldage x = new Worldage();
        int dog = x.named(0, true);
        int a = x.node('a', 0, 0, 0);
        int object = x.node('o', dog, a, 0);
        int[][] calls = {{0, a, -1}, {0, a, -1}, {1, a, -1}, {0, object, -1}, {0, a, a}, {0, a, object}, {0, object, a},
            {5, a, a}};
        int[] due = {2, 2, 3, 4, 5, 6, 7, 8};
        int body = a;
        for (int i = 0; i < calls.length; i++) {
            body = x.node('y', body, x.node('c', calls[i][0], calls[i][1], calls[i][2]), 0);
            int method = x.prepare(5, 1, -1, body);
            x.define(method);
            CHECK.due("with " + (i + 1), due[i], edgesOf(x));
            x.takeAway(method);
        }
    }

    /** A call that would be found within 6 others is not found, so that it is no edge. */
    private static void edgesWithinSix() {
        int[] due = {2, 2, 3, 4, 5, 6, 6, 6};
        for (int last = 0; last < due.length; last++) {
            Worldage x = new Worldage();
            int a = x.node('a', 0, 0, 0);
            int next = x.node('c', 0, x.node('+', a, x.node('n', 1, 0, 0), 0), -1);
            int isLess = x.node('<', a, x.node('n', last, 0, 0), 0);
            x.define(x.prepare(0, 1, -1, x.node('?', isLess, next, a)));
            x.define(x.prepare(5, 1, -1, x.node('c', 0, x.node('n', last == 0 ? 0 : 1, 0, 0), -1)));
            CHECK.due("from 1 to " + last, due[last], edgesOf(x));
        }
    }

    /** "each call that was found in the last round": what was found only in one before is no edge. */
    private static void edgesOfTheLastRound() {
        Worldage x = new Worldage();
        int dog = x.named(0, true);
        int cat = x.named(0, true);
        int a = x.node('a', 0, 0, 0);
        int self = x.node('c', 0, x.node('-', a, x.node('n', 1, 0, 0), 0), -1);
        int object = x.node('o', cat, a, 0);
        x.define(x.prepare(1, dog, -1, object));
        x.define(x.prepare(1, cat, -1, object));
        x.define(x.prepare(0, 1, -1, x.node('?', a, x.node('c', 1, self, -1), x.node('o', dog, a, 0))));
        CHECK.due("run", 'v', x.run(0, 0, NO, 9, true));
        CHECK.due("itself, and function 1 with cats or dogs, no more with dogs", 2, x.edges(0));
        CHECK.due("the types of the last round", 1, x.fixed(0));
    }

    /** Function 0 has boxes in boxes, so that no round is as that before; function 1 has objects of the type 3. */
    private static Worldage growing() {
        Worldage x = new Worldage();
        int dog = x.named(0, true);
        int a = x.node('a', 0, 0, 0);
        int self = x.node('c', 0, x.node('-', a, x.node('n', 1, 0, 0), 0), -1);
        int object = x.node('o', dog, a, 0);
        x.define(x.prepare(0, 1, -1, x.node('?', a, x.node('x', self, 0, 0), object)));
        x.define(x.prepare(1, 1, -1, x.node('y', object, x.node('c', 4, a, -1), 0)));
        return x;
    }

    /** "each call is 0" then: what has a call as its argument is fixed only by a method for all. */
    private static void notEndedFixed() {
        Worldage x = growing();
        int grows = x.node('c', 0, 0, -1);
        int object = x.node('c', 1, 0, -1);
        int shown = x.node('c', 2, object, -1);
        x.define(x.prepare(2, 3, -1, 0));
        CHECK.due("ended: by an object", 2, fixedIn(x, shown));
        CHECK.due("not ended: by all", 2, fixedIn(x, x.node('y', grows, shown, 0)));
        x.define(x.prepare(2, 0, -1, 0));
        x.takeAway(2);
        CHECK.due("one for all", 3, fixedIn(x, x.node('y', grows, shown, 0)));
        int behind = x.node('?', object, shown, shown);
        CHECK.due("ended: an object is no condition", 1, fixedIn(x, behind));
        CHECK.due("not ended: it may be one", 3, fixedIn(x, x.node('y', behind, grows, 0)));
        CHECK.due("the argument of the growing call", 1, fixedIn(x, grows));
    }

    /** "if the rounds did not end, each 'c' of the body with its types": and the function with its own types. */
    private static void notEndedEdges() {
        Worldage x = growing();
        int grows = x.node('c', 0, 0, -1);
        int object = x.node('c', 1, 0, -1);
        int shown = x.node('c', 2, object, -1);
        int zero = x.node('n', 0, 0, 0);
        int notMet = x.node('?', zero, x.node('c', 3, 0, -1), zero);
        int[] bodies = {object, grows, x.node('y', grows, object, 0), x.node('y', grows, shown, 0),
            x.node('y', grows, notMet, 0), x.node('y', grows, x.node('c', 0, 0, -1), 0),
            x.node('y', x.node('c', 2, grows, -1), shown, 0), x.node('y', grows, x.node('c', 5, 0, -1), 0)};
        int[] due = {3, 2, 3, 4, 2, 2, 4, 2};
        for (int i = 0; i < bodies.length; i++) {
            int method = x.prepare(5, 1, -1, bodies[i]);
            x.define(method);
            CHECK.due("body " + i, due[i], edgesOf(x));
            x.takeAway(method);
        }
        x.define(x.prepare(5, 1, -1, bodies[3]));
        edgesOf(x);
        int stale = x.stale();
        x.define(x.prepare(4, 1, -1, 0));
        CHECK.due("what its calls call is none of its edges", stale, x.stale());
        x.define(x.prepare(2, x.box(3), -1, 0));
        CHECK.due("but all types meet that of its call", stale + 1, x.stale());
    }

    /** Without a method there is no body: the code has its own edge alone. */
    private static void notEndedWithoutMethod() {
        Worldage x = growing();
        int grows = x.node('c', 0, 0, -1);
        x.define(x.prepare(5, 1, -1, grows));
        x.define(x.prepare(5, x.ofInt(3), -1, grows));
        CHECK.due("its own", 1, edgesOf(x));
        CHECK.due("no method", -1, x.methodOf(0));
        CHECK.due("none fixed", 0, x.fixed(0));
    }

    /** "with as many parameters as the types of an edge to this function, whose types each meet those of the edge". */
    private static void staleByPlaces() {
        Worldage x = new Worldage();
        int dog = x.named(0, true);
        int cat = x.named(0, true);
        int a = x.node('a', 0, 0, 0);
        x.define(x.prepare(5, 1, -1, x.node('c', 0, a, x.node('o', dog, a, 0))));
        int[][] comers = {{0, 1, -1}, {0, 0, -1}, {1, 1, dog}, {0, 1, cat}, {0, cat, dog}, {0, dog, 0}, {0, 1, 2},
            {0, 1, x.box(dog)}};
        CHECK.due("edges", 2, edgesOf(x));
        for (int[] comer : comers) {
            int method = x.prepare(comer[0], comer[1], comer[2], a);
            x.define(method);
            CHECK.due("one that comes, " + method, 0, x.stale());
            x.takeAway(method);
            CHECK.due("and goes, " + method, 0, x.stale());
        }
        int[][] others = {{0, 1, dog}, {0, x.ofInt(3), 0}, {0, 0, x.union(cat, dog)}, {0, x.union(2, 2), dog},
            {5, 0, -1}};
        for (int i = 0; i < others.length; i++) {
            int method = x.prepare(others[i][0], others[i][1], others[i][2], a);
            x.define(method);
            CHECK.due("one that comes, " + method, 2 * i + 1, x.stale());
            x.run(5, 5, NO, 1, true);
            CHECK.due("made again", 2 * i + 2, x.codes());
            x.takeAway(method);
            CHECK.due("and goes, " + method, 2 * i + 2, x.stale());
            x.run(5, 5, NO, 1, true);
            CHECK.due("made again", 2 * i + 3, x.codes());
        }
    }

    /** "comes or goes": by define, by being replaced, by takeAway, and by a node d. */
    private static void staleByComing() {
        Worldage x = new Worldage();
        int a = x.node('a', 0, 0, 0);
        x.prepare(0, 1, -1, a);
        x.prepare(0, 1, -1, a);
        x.define(x.prepare(1, 1, -1, x.node('d', 0, 0, 0)));
        CHECK.due("no methods", 1, codesAfter(x, 'n'));
        x.define(0);
        CHECK.due("it comes", 1, x.stale());
        CHECK.due("made again", 2, codesAfter(x, 'v'));
        x.define(1);
        CHECK.due("it is replaced", 2, x.stale());
        CHECK.due("made again", 3, codesAfter(x, 'v'));
        CHECK.due("the new one", 1, x.methodOf(2));
        CHECK.due("by a node d", 'v', x.run(1, 5, NO, 9, false));
        CHECK.due("it is replaced", 3, x.stale());
        CHECK.due("made again", 4, codesAfter(x, 'v'));
        CHECK.due("the old one", 0, x.methodOf(3));
        x.takeAway(0);
        CHECK.due("it goes", 4, x.stale());
        CHECK.due("made again", 5, codesAfter(x, 'n'));
        CHECK.due("which is not stale", 4, x.stale());
    }

    private static int codesAfter(Worldage x, char end) {
        CHECK.due("end", end, x.run(0, 5, NO, 9, true));
        CHECK.due("no other code is needed", end, x.run(0, 6, NO, 9, true));
        return x.codes();
    }

    /** "Code is stale from the age on at which": calls of an age before it still take it. */
    private static void staleFromAnAgeOn() {
        Worldage x = new Worldage();
        int a = x.node('a', 0, 0, 0);
        int old = x.prepare(0, 1, -1, a);
        int fresh = x.prepare(0, 1, -1, x.node('n', 7, 0, 0));
        int hundreds = x.node('*', x.node('d', fresh, 0, 0), x.node('n', 100, 0, 0), 0);
        x.define(old);
        x.define(x.prepare(1, 1, -1, x.node('+', hundreds, x.node('c', 0, a, -1), 0)));
        x.run(0, 3, NO, 9, true);
        CHECK.due("run", 'v', x.run(1, 3, NO, 99, true));
        CHECK.due("at age 2, and age 3", 303, x.result());
        CHECK.due("none looked up", 0, x.lookups());
        CHECK.due("both took code", 2, x.taken());
        CHECK.due("one made", 2, x.codes());
        CHECK.due("both stale at age 3", 2, x.stale());
        x.define(old);
        x.define(x.prepare(1, 1, -1, x.node('+', hundreds, x.node('l', 0, a, -1), 0)));
        x.run(0, 3, NO, 9, true);
        CHECK.due("run", 'v', x.run(1, 3, NO, 99, true));
        CHECK.due("at the latest age", 607, x.result());
        CHECK.due("all but one made before", 5, x.codes());
        CHECK.due("two are not stale", 3, x.stale());
        CHECK.due("by the old method", old, x.methodOf(2));
        CHECK.due("by the new one", fresh, x.methodOf(4));
    }

    /** "code is made again then when it is needed", and not before; what it was is kept. */
    private static void madeAgain() {
        Worldage x = new Worldage();
        int a = x.node('a', 0, 0, 0);
        x.define(x.prepare(0, 1, -1, a));
        int other = x.prepare(0, x.ofInt(3), -1, a);
        for (int i = 0; i < 10; i++) {
            x.run(0, 5, NO, 9, true);
            CHECK.due("codes", i + 1, x.codes());
            CHECK.due("stale", i, x.stale());
            x.run(0, 5, NO, 9, false);
            CHECK.due("no code is needed", i + 1, x.codes());
            CHECK.due("method", i % 2 == 0 ? 0 : -1, x.methodOf(i));
            if (i % 2 == 0) {
                x.define(other);
            } else {
                x.takeAway(other);
            }
            CHECK.due("codes", i + 1, x.codes());
            CHECK.due("stale", i + 1, x.stale());
            CHECK.due("as it was", 0, x.methodOf(0));
        }
    }

    /**
     * "it is taken; else, if its age is the latest one, code is made and taken; otherwise a method is chosen plainly".
     */
    private static void takenOrMade() {
        Worldage x = new Worldage();
        int a = x.node('a', 0, 0, 0);
        x.define(x.prepare(0, 1, -1, a));
        int fresh = x.prepare(2, 1, -1, a);
        int call = x.node('c', 0, a, -1);
        int defined = x.node('d', fresh, 0, 0);
        x.define(x.prepare(1, 1, -1, x.node('+', defined, x.node('+', call, call, 0), 0)));
        CHECK.due("run", 'v', x.run(1, 5, NO, 99, true));
        CHECK.due("two plainly", 2, x.lookups());
        CHECK.due("one took code", 1, x.taken());
        CHECK.due("codes", 1, x.codes());
        x.takeAway(fresh);
        x.run(0, 5, NO, 9, true);
        CHECK.due("run", 'v', x.run(1, 5, NO, 99, true));
        CHECK.due("none plainly", 0, x.lookups());
        CHECK.due("three took code", 3, x.taken());
        CHECK.due("codes", 2, x.codes());
        x.takeAway(fresh);
        CHECK.due("without code", 'v', x.run(1, 5, NO, 99, false));
        CHECK.due("three plainly", 3, x.lookups());
        CHECK.due("none took code", 0, x.taken());
        CHECK.due("codes", 2, x.codes());
        CHECK.due("no method", 'n', x.run(5, 5, NO, 99, true));
        CHECK.due("plainly, with an error", 1, x.lookups());
        CHECK.due("took code", 1, x.taken());
    }

    /**
     * "If the call has a fixed method, this is it; otherwise that of the code, if it has one; otherwise .. plainly."
     */
    private static void fixedMethodFirst() {
        Worldage x = new Worldage();
        int a = x.node('a', 0, 0, 0);
        int three = x.node('n', 3, 0, 0);
        int seven = x.node('n', 7, 0, 0);
        x.define(x.prepare(0, x.ofInt(3), -1, seven));
        x.define(x.prepare(0, x.ofInt(4), -1, three));
        int fixed = x.node('c', 0, three, -1);
        int unsure = x.node('c', 0, a, -1);
        x.define(x.prepare(1, 1, -1, fixed));
        x.define(x.prepare(2, 1, -1, unsure));
        x.define(x.prepare(3, 1, -1, x.node('c', 1, a, -1)));
        CHECK.due("fixed, the method 0", 'v', x.run(1, 5, NO, 99, true));
        CHECK.due("result", 7, x.result());
        CHECK.due("none plainly", 0, x.lookups());
        CHECK.due("one fixed", 1, x.fixed(0));
        CHECK.due("the other code has no method", -1, x.methodOf(1));
        CHECK.due("not fixed", 'v', x.run(2, 4, NO, 99, true));
        CHECK.due("one plainly", 1, x.lookups());
        CHECK.due("took code", 2, x.taken());
        CHECK.due("by the code", 'v', x.run(3, 5, NO, 99, true));
        CHECK.due("none plainly", 0, x.lookups());
        CHECK.due("took code", 3, x.taken());
        CHECK.due("the first call has no fixed method", 'v', x.run(0, 4, NO, 99, true));
        CHECK.due("one plainly", 1, x.lookups());
    }

    /** "A body is done with the fixed methods of the code if the method is that of the code, without any otherwise." */
    private static void withoutAnyOtherwise() {
        Worldage x = new Worldage();
        int a = x.node('a', 0, 0, 0);
        int three = x.node('n', 3, 0, 0);
        x.define(x.prepare(0, x.ofInt(3), -1, a));
        x.define(x.prepare(0, x.ofInt(4), -1, a));
        int inner = x.node('c', 0, three, -1);
        x.define(x.prepare(1, 1, -1, inner));
        x.define(x.prepare(2, 1, -1, x.node('c', 1, three, -1)));
        CHECK.due("run", 'v', x.run(2, 5, NO, 99, true));
        CHECK.due("fixed in the body of the code's method", 0, x.lookups());
        x.define(x.prepare(1, x.ofInt(4), -1, inner));
        CHECK.due("run", 'v', x.run(2, 5, NO, 99, true));
        CHECK.due("the call is fixed, but its code has no method", -1, x.methodOf(x.codes() - 1));
        CHECK.due("so that its body has none fixed", 1, x.lookups());
        CHECK.due("run", 'v', x.run(1, 4, NO, 99, true));
        CHECK.due("nor has it when it is chosen plainly", 2, x.lookups());
    }

    /** Makes codes of function 5 until there are so many. */
    private static void fill(Worldage x, int turning, int codes) {
        for (int turn = 0; turn < 60 && x.codes() < codes; turn++) {
            if (x.isThere(turning, x.age())) {
                x.takeAway(turning);
            } else {
                x.define(turning);
            }
            x.run(5, 5, NO, 9, true);
        }
        CHECK.due("codes", codes, x.codes());
    }

    /** "At most 60 codes are made; the next one makes all others be gone, and is the first one." */
    private static void sixtyCodes() {
        Worldage x = new Worldage();
        int a = x.node('a', 0, 0, 0);
        int turning = x.prepare(5, 1, -1, a);
        x.define(x.prepare(0, 1, -1, x.node('c', 1, a, -1)));
        x.define(x.prepare(1, 1, -1, a));
        fill(x, turning, 60);
        CHECK.due("stale", 59, x.stale());
        CHECK.due("the last one", -1, x.methodOf(59));
        CHECK.due("the one before", turning, x.methodOf(58));
        CHECK.throwing("none behind it", IndexOutOfBoundsException.class, () -> x.methodOf(60));
        x.run(5, 5, NO, 9, true);
        CHECK.due("none is made", 60, x.codes());
        CHECK.dueDouble("mean", 1, x.meanEdges());
        CHECK.throwing("no nodes c", ArithmeticException.class, x::fixedShare);
        CHECK.due("the next one", 'v', x.run(1, 5, NO, 9, true));
        CHECK.due("is the first one", 1, x.codes());
        CHECK.due("method", 2, x.methodOf(0));
        CHECK.due("none is stale", 0, x.stale());
        CHECK.throwing("all others are gone", IndexOutOfBoundsException.class, () -> x.methodOf(1));
        CHECK.throwing("all others are gone", IndexOutOfBoundsException.class, () -> x.edges(59));
        x.run(5, 5, NO, 9, true);
        CHECK.due("made again, as it was gone", 2, x.codes());
        CHECK.due("taken", 'v', x.run(0, 5, NO, 9, true));
        CHECK.due("one made, one was there", 3, x.codes());
        CHECK.due("taken", 2, x.taken());
    }

    /** A code with the index of one that is gone has nothing of it. */
    private static void rowsAreMadeNew() {
        Worldage x = new Worldage();
        int a = x.node('a', 0, 0, 0);
        int seven = x.node('n', 7, 0, 0);
        int turning = x.prepare(5, 1, -1, a);
        x.define(x.prepare(0, 1, -1, x.node('+', x.node('c', 1, a, -1), x.node('c', 2, a, -1), 0)));
        x.define(x.prepare(1, 1, -1, a));
        x.define(x.prepare(2, 1, -1, a));
        x.run(0, 3, NO, 99, true);
        CHECK.due("fixed", 2, x.fixed(0));
        CHECK.due("edges", 3, x.edges(0));
        fill(x, turning, 60);
        x.define(x.prepare(1, x.ofInt(3), -1, seven));
        CHECK.due("by its new methods", 'v', x.run(0, 3, NO, 99, true));
        CHECK.due("7 and 3", 10, x.result());
        CHECK.due("codes", 3, x.codes());
        CHECK.due("one is fixed now", 1, x.fixed(0));
        CHECK.due("edges", 3, x.edges(0));
        CHECK.due("one plainly", 1, x.lookups());
        CHECK.dueDouble("share", (float) 1 / (float) 2, x.fixedShare());
        CHECK.dueDouble("mean", (double) 5 / (double) 3, x.meanEdges());
        fill(x, turning, 60);
        CHECK.due("those of function 5 but the last, none by edges that are gone", 56, x.stale());
        x.takeAway(3);
        x.define(3);
        CHECK.due("one without nodes c", 'v', x.run(2, 3, NO, 99, true));
        CHECK.due("codes", 1, x.codes());
        CHECK.due("none fixed", 0, x.fixed(0));
        CHECK.due("edges", 1, x.edges(0));
        CHECK.throwing("no nodes c", ArithmeticException.class, x::fixedShare);
    }

    /** A body goes on with the fixed methods of its code, even if this is gone meanwhile. */
    private static void goneUnderWay() {
        Worldage x = new Worldage();
        int a = x.node('a', 0, 0, 0);
        int three = x.node('n', 3, 0, 0);
        int turning = x.prepare(5, 1, -1, a);
        int inner = x.node('c', 2, three, -1);
        x.define(x.prepare(0, 1, -1, x.node('+', x.node('c', 1, a, -1), inner, 0)));
        x.define(x.prepare(1, 1, -1, a));
        x.define(x.prepare(2, x.ofInt(3), -1, a));
        x.define(x.prepare(2, x.ofInt(4), -1, a));
        fill(x, turning, 59);
        CHECK.due("run", 'v', x.run(0, 5, NO, 99, true));
        CHECK.due("its code was the 60th", 2, x.codes());
        CHECK.due("the next one is the first", 2, x.methodOf(0));
        CHECK.due("the last one has no method", -1, x.methodOf(1));
        CHECK.due("but the call of it is fixed", 0, x.lookups());
        CHECK.due("all took code", 3, x.taken());
    }
}
