import java.util.NoSuchElementException;

/** Promises 19 to 25: run, result, resultType, lookups, taken, steps, allSteps. */
public final class RunTest {
    private static final Check CHECK = new Check();
    private static final int NO = Integer.MIN_VALUE;

    public static void main(String[] args) {
        for (int way = 0; way < 2; way++) {
            boolean isByCode = way == 1;
            kinds(isByCode);
            errors(isByCode);
            boxesOfDepth(isByCode);
            throwing(isByCode);
            choosing(isByCode);
            stepsAndCalls(isByCode);
            ages(isByCode);
            lateCalls(isByCode);
            order(isByCode);
        }
        lookupsAndTaken();
        fixedCalls();
        codeOfLaterAges();
        refused();
        types();
        CHECK.end();
    }

    /** Runs a body alone for some ints. */
    private static char ends(Worldage x, int body, int first, int second, boolean isByCode) {
        int method = x.prepare(5, 0, second == NO ? -1 : 0, body);
        x.define(method);
        char end = x.run(5, first, second, 1000, isByCode);
        x.takeAway(method);
        return end;
    }

    private static void value(Worldage x, int due, int dueType, int body, int first, int second, boolean isByCode) {
        CHECK.due("end of " + body, 'v', ends(x, body, first, second, isByCode));
        CHECK.due("result of " + body, due, x.result());
        CHECK.due("type of " + body, dueType, x.resultType());
    }

    private static void kinds(boolean by) {
        Worldage x = new Worldage();
        int dog = x.named(0, true);
        int box = x.box(1);
        int a = x.node('a', 0, 0, 0);
        int b = x.node('a', 1, 0, 0);
        int n = x.node('n', 5, 0, 0);
        int most = x.node('n', Integer.MAX_VALUE, 0, 0);
        value(x, 5, 1, n, 1, NO, by);
        value(x, 3, 1, a, 3, NO, by);
        value(x, -4, 1, b, 3, -4, by);
        value(x, 7, 1, x.node('+', a, b, 0), 3, 4, by);
        value(x, -1, 1, x.node('-', a, b, 0), 3, 4, by);
        value(x, 12, 1, x.node('*', a, b, 0), 3, 4, by);
        value(x, 1, 1, x.node('<', a, b, 0), 3, 4, by);
        value(x, 0, 1, x.node('<', a, b, 0), 4, 4, by);
        value(x, Integer.MIN_VALUE, 1, x.node('+', most, a, 0), 1, NO, by);
        value(x, 1, 1, x.node('*', most, most, 0), 1, NO, by);
        int choice = x.node('?', a, n, a);
        value(x, 5, 1, choice, -7, NO, by);
        value(x, 0, 1, choice, 0, NO, by);
        int object = x.node('o', dog, a, 0);
        value(x, 8, dog, object, 8, NO, by);
        value(x, 8, 1, x.node('f', object, 0, 0), 8, NO, by);
        int boxed = x.node('x', a, 0, 0);
        value(x, 9, box, boxed, 9, NO, by);
        value(x, 9, 1, x.node('u', boxed, 0, 0), 9, NO, by);
        int boxedDog = x.node('x', object, 0, 0);
        value(x, 6, x.box(dog), boxedDog, 6, NO, by);
        value(x, 6, dog, x.node('u', boxedDog, 0, 0), 6, NO, by);
        value(x, 6, x.box(x.box(dog)), x.node('x', boxedDog, 0, 0), 6, NO, by);
        value(x, 2, 1, x.node('y', a, n, 0), 2, NO, by);
    }

    private static void errors(boolean by) {
        Worldage x = new Worldage();
        int dog = x.named(0, true);
        int a = x.node('a', 0, 0, 0);
        int b = x.node('a', 1, 0, 0);
        int n = x.node('n', 5, 0, 0);
        int object = x.node('o', dog, n, 0);
        int box = x.node('x', n, 0, 0);
        int[] wrong = {b, x.node('+', object, n, 0), x.node('-', n, object, 0), x.node('*', box, n, 0),
            x.node('<', n, box, 0), x.node('?', object, n, n), x.node('?', box, n, n), x.node('o', dog, object, 0),
            x.node('o', dog, box, 0), x.node('f', n, 0, 0), x.node('f', box, 0, 0), x.node('u', n, 0, 0),
            x.node('u', object, 0, 0), x.node('t', object, 0, 0), x.node('t', box, 0, 0), x.node('d', 39, 0, 0),
            x.node('y', b, n, 0)};
        for (int body : wrong) {
            CHECK.due("error of " + body, 'e', ends(x, body, 1, NO, by));
            CHECK.throwing("no result", NoSuchElementException.class, x::result);
            CHECK.throwing("no type", NoSuchElementException.class, x::resultType);
        }
        CHECK.due("an operand that is not done", 'v', ends(x, x.node('?', a, n, b), 1, NO, by));
        CHECK.due("the other one", 'e', ends(x, x.node('?', a, n, b), 0, NO, by));
    }

    private static void boxesOfDepth(boolean by) {
        Worldage x = new Worldage();
        int node = x.node('a', 0, 0, 0);
        for (int depth = 1; depth <= 4; depth++) {
            node = x.node('x', node, 0, 0);
            CHECK.due("box " + depth, 'v', ends(x, node, 3, NO, by));
        }
        CHECK.due("box 5", 'e', ends(x, x.node('x', node, 0, 0), 3, NO, by));
    }

    private static void throwing(boolean by) {
        Worldage x = new Worldage();
        int a = x.node('a', 0, 0, 0);
        int one = x.node('n', 1, 0, 0);
        int thrown = x.node('t', a, 0, 0);
        CHECK.due("t", 't', ends(x, thrown, 7, NO, by));
        CHECK.due("what was thrown", 7, x.result());
        CHECK.throwing("no type", NoSuchElementException.class, x::resultType);
        value(x, 1, 1, x.node('y', thrown, one, 0), 7, NO, by);
        int inner = x.node('y', thrown, thrown, 0);
        CHECK.due("thrown again", 't', ends(x, inner, 7, NO, by));
        value(x, 1, 1, x.node('y', inner, one, 0), 7, NO, by);
        int sum = x.node('+', one, thrown, 0);
        value(x, 2, 1, x.node('+', one, x.node('y', sum, one, 0), 0), 7, NO, by);
        x.define(x.prepare(0, 1, -1, thrown));
        int call = x.node('c', 0, a, -1);
        CHECK.due("from a call", 't', ends(x, call, 9, NO, by));
        CHECK.due("what was thrown", 9, x.result());
        int caught = x.node('y', x.node('+', one, call, 0), a, 0);
        value(x, 10, 1, x.node('+', one, caught, 0), 9, NO, by);
        int error = x.node('y', x.node('c', 1, a, -1), one, 0);
        CHECK.due("errors are not caught", 'n', ends(x, error, 9, NO, by));
        int condition = x.node('?', thrown, one, one);
        CHECK.due("in a condition", 't', ends(x, condition, 9, NO, by));
        value(x, 2, 1, x.node('y', condition, x.node('+', one, one, 0), 0), 9, NO, by);
    }

    private static void choosing(boolean by) {
        Worldage x = new Worldage();
        int dog = x.named(0, true);
        int three = x.ofInt(3);
        int four = x.ofInt(4);
        int a = x.node('a', 0, 0, 0);
        int[] results = new int[6];
        for (int i = 0; i < 6; i++) {
            results[i] = x.node('n', i, 0, 0);
        }
        x.define(x.prepare(0, 1, -1, results[0]));
        x.define(x.prepare(0, three, -1, results[1]));
        x.define(x.prepare(0, x.union(dog, four), -1, results[2]));
        x.define(x.prepare(0, dog, -1, results[3]));
        x.define(x.prepare(0, x.box(three), -1, results[4]));
        CHECK.due("3", 'v', x.run(0, 3, NO, 9, by));
        CHECK.due("one int", 1, x.result());
        CHECK.due("5", 'v', x.run(0, 5, NO, 9, by));
        CHECK.due("any int", 0, x.result());
        CHECK.due("4 is of two that are not below each other", 'a', x.run(0, 4, NO, 9, by));
        CHECK.due("an object", 'v', ends(x, x.node('c', 0, x.node('o', dog, a, 0), -1), 4, NO, by));
        CHECK.due("the least one", 3, x.result());
        CHECK.due("a box is of ints, not of 3", 'n', ends(x, x.node('c', 0, x.node('x', a, 0, 0), -1), 3, NO, by));
        CHECK.due("with two", 'n', x.run(0, 3, 3, 9, by));
        CHECK.due("no such function there", 'n', x.run(1, 3, NO, 9, by));
        x.define(x.prepare(2, 1, three, results[1]));
        x.define(x.prepare(2, 1, four, results[2]));
        CHECK.due("by the second one", 'v', x.run(2, 4, 3, 9, by));
        CHECK.due("3", 1, x.result());
        CHECK.due("by the second one", 'v', x.run(2, 3, 4, 9, by));
        CHECK.due("4", 2, x.result());
        CHECK.due("5", 'n', x.run(2, 3, 5, 9, by));
        x.define(x.prepare(2, three, 1, results[3]));
        CHECK.due("neither is below the other", 'a', x.run(2, 3, 4, 9, by));
        CHECK.due("one matches", 'v', x.run(2, 3, 5, 9, by));
        CHECK.due("the first is 3", 3, x.result());
    }

    private static void stepsAndCalls(boolean by) {
        Worldage x = new Worldage();
        int a = x.node('a', 0, 0, 0);
        int one = x.node('n', 1, 0, 0);
        int sum = x.node('+', a, one, 0);
        x.define(x.prepare(0, 1, -1, sum));
        CHECK.due("just enough", 'v', x.run(0, 1, NO, 3, by));
        CHECK.due("steps", 3, x.steps());
        CHECK.due("one too few", 's', x.run(0, 1, NO, 2, by));
        CHECK.due("steps", 2, x.steps());
        CHECK.throwing("no result", NoSuchElementException.class, x::result);
        CHECK.due("all", 5, x.allSteps());
        int less = x.node('-', a, one, 0);
        int self = x.node('c', 1, less, -1);
        x.define(x.prepare(1, 1, -1, x.node('?', a, self, one)));
        CHECK.due("20 calls", 'v', x.run(1, 19, NO, 1000, by));
        CHECK.due("steps", 19 * 6 + 3, x.steps());
        CHECK.due("21 calls", 's', x.run(1, 20, NO, 1000, by));
        CHECK.due("steps", 20 * 6, x.steps());
        CHECK.due("all", 5 + 19 * 6 + 3 + 20 * 6, x.allSteps());
        x.define(x.prepare(2, 1, -1, x.node('?', a, x.node('+', self, self, 0), one)));
        CHECK.due("calls that are over do not count", 'v', x.run(2, 19, NO, 1000, by));
        CHECK.due("result", 2, x.result());
        CHECK.due("no step at all", 'n', x.run(4, 19, NO, 1000, by));
        CHECK.due("steps", 0, x.steps());
        CHECK.due("a thousand is not passed", 's', endless(by));
    }

    /** Calls itself twice to a depth of 15. */
    private static char endless(boolean by) {
        Worldage x = new Worldage();
        int a = x.node('a', 0, 0, 0);
        int less = x.node('-', a, x.node('n', 1, 0, 0), 0);
        int self = x.node('c', 0, less, -1);
        x.define(x.prepare(0, 1, -1, x.node('?', a, x.node('+', self, self, 0), a)));
        char end = x.run(0, 15, NO, 1000, by);
        CHECK.due("steps", 1000, x.steps());
        return end;
    }

    private static void ages(boolean by) {
        Worldage x = new Worldage();
        int a = x.node('a', 0, 0, 0);
        int ten = x.node('n', 10, 0, 0);
        int old = x.prepare(0, 0, -1, a);
        int fresh = x.prepare(0, 1, -1, ten);
        int defined = x.node('d', fresh, 0, 0);
        int call = x.node('c', 0, a, -1);
        int late = x.node('l', 0, a, -1);
        int hundred = x.node('n', 100, 0, 0);
        int early = x.node('+', x.node('*', defined, hundred, 0), call, 0);
        int now = x.node('+', x.node('*', defined, hundred, 0), late, 0);
        x.prepare(1, 1, -1, early);
        x.prepare(1, 1, -1, now);
        x.define(old);
        x.define(2);
        CHECK.due("by its own age", 'v', x.run(1, 3, NO, 99, by));
        CHECK.due("age 3, the old method", 303, x.result());
        CHECK.due("the age stays", 3, x.age());
        CHECK.due("it is there now", true, x.isThere(fresh, 3));
        CHECK.due("a second time it cannot be", 'e', x.run(1, 3, NO, 99, by));
        x.takeAway(fresh);
        x.define(3);
        CHECK.due("by the latest age", 'v', x.run(1, 3, NO, 99, by));
        CHECK.due("age 6, the new method", 610, x.result());
    }

    /** What is called by l has the latest age, and so have calls from it. */
    private static void lateCalls(boolean by) {
        Worldage x = new Worldage();
        int a = x.node('a', 0, 0, 0);
        int five = x.node('n', 5, 0, 0);
        int fresh = x.prepare(0, 1, -1, five);
        int call = x.node('c', 0, a, -1);
        int through = x.node('l', 1, a, -1);
        int defined = x.node('d', fresh, 0, 0);
        x.define(x.prepare(1, 1, -1, call));
        x.define(x.prepare(2, 1, -1, x.node('+', defined, through, 0)));
        CHECK.due("l", 'v', x.run(2, 1, NO, 99, by));
        CHECK.due("3 and 5", 8, x.result());
        x.takeAway(fresh);
        x.define(x.prepare(3, 1, -1, x.node('+', defined, x.node('c', 1, a, -1), 0)));
        CHECK.due("c", 'n', x.run(3, 1, NO, 99, by));
        CHECK.due("defined all the same", 6, x.age());
        x.takeAway(fresh);
        int both = x.node('l', 4, defined, a);
        x.define(x.prepare(4, 1, 1, x.node('a', 0, 0, 0)));
        x.define(x.prepare(5, 1, -1, both));
        CHECK.due("the moment is behind the arguments", 'v', x.run(5, 1, NO, 99, by));
        CHECK.due("age 10", 10, x.result());
    }

    private static void order(boolean by) {
        Worldage x = new Worldage();
        int a = x.node('a', 0, 0, 0);
        int one = x.node('n', 1, 0, 0);
        int two = x.node('n', 2, 0, 0);
        int throwOne = x.node('t', one, 0, 0);
        int throwTwo = x.node('t', two, 0, 0);
        int box = x.node('x', a, 0, 0);
        CHECK.due("left first", 't', ends(x, x.node('-', throwOne, throwTwo, 0), 1, NO, by));
        CHECK.due("1", 1, x.result());
        CHECK.due("both before they are looked at", 't', ends(x, x.node('-', box, throwTwo, 0), 1, NO, by));
        CHECK.due("2", 2, x.result());
        CHECK.due("arguments first", 't', ends(x, x.node('c', 0, a, throwTwo), 1, NO, by));
        CHECK.due("first argument", 't', ends(x, x.node('c', 0, throwOne, throwTwo), 1, NO, by));
        CHECK.due("1", 1, x.result());
    }

    private static void lookupsAndTaken() {
        Worldage x = new Worldage();
        int three = x.ofInt(3);
        int a = x.node('a', 0, 0, 0);
        int one = x.node('n', 1, 0, 0);
        int call = x.node('c', 1, a, -1);
        x.define(x.prepare(0, 1, -1, x.node('+', call, call, 0)));
        int other = x.prepare(1, 1, -1, one);
        x.define(other);
        CHECK.due("plainly", 'v', x.run(0, 3, NO, 99, false));
        CHECK.due("lookups", 3, x.lookups());
        CHECK.due("taken", 0, x.taken());
        CHECK.due("codes", 0, x.codes());
        CHECK.due("by code", 'v', x.run(0, 3, NO, 99, true));
        CHECK.due("lookups", 0, x.lookups());
        CHECK.due("taken", 3, x.taken());
        x.define(x.prepare(1, three, -1, a));
        CHECK.due("by code that is not sure", 'v', x.run(0, 3, NO, 99, true));
        CHECK.due("result", 6, x.result());
        CHECK.due("lookups", 2, x.lookups());
        CHECK.due("taken", 3, x.taken());
        x.takeAway(other);
        CHECK.due("none", 'n', x.run(0, 4, NO, 99, true));
        CHECK.due("the one that failed, too", 1, x.lookups());
        CHECK.due("taken", 2, x.taken());
        int fresh = x.prepare(2, 1, -1, one);
        int defined = x.node('d', fresh, 0, 0);
        x.define(x.prepare(3, 1, -1, x.node('+', defined, x.node('c', 4, a, -1), 0)));
        x.define(x.prepare(4, 1, -1, a));
        CHECK.due("no code for an age that is gone", 'v', x.run(3, 4, NO, 99, true));
        CHECK.due("so it is chosen plainly", 1, x.lookups());
        CHECK.due("taken", 1, x.taken());
        x.run(4, 4, NO, 99, true);
        x.takeAway(fresh);
        CHECK.due("code that was made ahead is taken", 'v', x.run(3, 4, NO, 99, true));
        CHECK.due("lookups", 0, x.lookups());
        CHECK.due("taken", 2, x.taken());
    }

    /** A call with 3 is fixed though calls with ints are not; what is called so goes on without fixed methods. */
    private static void fixedCalls() {
        Worldage x = new Worldage();
        int a = x.node('a', 0, 0, 0);
        int three = x.node('n', 3, 0, 0);
        int inner = x.node('c', 2, three, -1);
        x.define(x.prepare(0, 1, -1, x.node('c', 1, three, -1)));
        x.define(x.prepare(1, x.ofInt(3), -1, x.node('+', a, inner, 0)));
        x.define(x.prepare(1, x.ofInt(4), -1, a));
        x.define(x.prepare(2, x.ofInt(3), -1, a));
        x.define(x.prepare(2, x.ofInt(4), -1, a));
        CHECK.due("run", 'v', x.run(0, 9, NO, 99, true));
        CHECK.due("result", 6, x.result());
        CHECK.due("first fixed, second looked up", 1, x.lookups());
        CHECK.due("all took code", 3, x.taken());
        CHECK.due("fixed", 1, x.fixed(0));
        CHECK.due("code of the first one", 1 - 1, x.methodOf(0));
        CHECK.due("none of the second one", -1, x.methodOf(1));
        int dog = x.named(0, true);
        int object = x.node('o', dog, a, 0);
        x.define(x.prepare(3, 1, dog, a));
        x.define(x.prepare(3, dog, 1, three));
        x.define(x.prepare(4, 1, -1, x.node('+', x.node('c', 3, a, object), x.node('c', 3, object, a), 0)));
        CHECK.due("two arguments", 'v', x.run(4, 9, NO, 99, true));
        CHECK.due("each its own", 12, x.result());
        CHECK.due("no lookups", 0, x.lookups());
        CHECK.due("three codes", 3, x.taken());
        CHECK.due("the second one", 5, x.methodOf(x.codes() - 2));
        CHECK.due("the third one", 6, x.methodOf(x.codes() - 1));
    }

    private static void codeOfLaterAges() {
        Worldage x = new Worldage();
        int a = x.node('a', 0, 0, 0);
        int five = x.node('n', 5, 0, 0);
        int fresh = x.prepare(1, 0, -1, five);
        x.define(x.prepare(1, 0, -1, a));
        int defined = x.node('d', fresh, 0, 0);
        int late = x.node('l', 1, a, -1);
        int early = x.node('c', 1, a, -1);
        x.define(x.prepare(0, 1, -1, x.node('+', x.node('*', defined, late, 0), early, 0)));
        CHECK.due("run", 'v', x.run(0, 2, NO, 99, true));
        CHECK.due("3 times the new one, and the old one", 3 * 5 + 2, x.result());
        CHECK.due("the code of l is too young for c", 1, x.lookups());
        CHECK.due("taken", 2, x.taken());
    }

    private static void refused() {
        Worldage x = new Worldage();
        x.node('n', 7, 0, 0);
        x.define(x.prepare(0, 1, -1, 0));
        x.run(0, 1, NO, 9, true);
        CHECK.throwing("function 6", IllegalArgumentException.class, () -> x.run(6, 1, NO, 9, true));
        CHECK.throwing("function -1", IllegalArgumentException.class, () -> x.run(-1, 1, NO, 9, true));
        CHECK.throwing("0 steps", IllegalArgumentException.class, () -> x.run(0, 1, NO, 0, true));
        CHECK.throwing("1001 steps", IllegalArgumentException.class, () -> x.run(0, 1, NO, 1001, true));
        CHECK.due("the last run stays", 7, x.result());
        CHECK.due("its steps", 1, x.steps());
        CHECK.due("what it took", 1, x.taken());
        CHECK.due("1 step", 'v', x.run(0, 1, NO, 1, false));
        CHECK.due("1000 steps", 'v', x.run(0, Integer.MIN_VALUE, NO, 1000, false));
        CHECK.due("all", 3, x.allSteps());
    }

    /** The type of a value has a number from when it is asked for. */
    private static void types() {
        Worldage x = new Worldage();
        int a = x.node('a', 0, 0, 0);
        int two = x.node('x', x.node('x', a, 0, 0), 0, 0);
        x.define(x.prepare(0, 1, -1, two));
        CHECK.due("run", 'v', x.run(0, 1, NO, 9, false));
        CHECK.due("no number yet", 3, x.types());
        CHECK.due("type", 4, x.resultType());
        CHECK.due("what it is made of is ahead", 3, x.box(1));
        Worldage y = new Worldage();
        y.define(y.prepare(0, 1, -1, y.node('x', y.node('x', y.node('a', 0, 0, 0), 0, 0), 0, 0)));
        for (int i = 0; i < 56; i++) {
            y.ofInt(i);
        }
        CHECK.due("run", 'v', y.run(0, 8, NO, 9, false));
        CHECK.throwing("no numbers left for both", IllegalStateException.class, y::resultType);
        CHECK.due("types", 59, y.types());
        CHECK.due("result", 8, y.result());
    }
}
