import java.util.NoSuchElementException;

/** Promise 31: trim. */
public final class TrimTest {
    private static final Check CHECK = new Check();

    public static void main(String[] args) {
        chains();
        refusedCalls();
        lateNodes();
        endless();
        longChains();
        hollowParts();
        handedOn();
        farInt();
        twoHollowParts();
        notEnded();
        manyFound();
        hangingCalls();
        hangingChain();
        hangingSecond();
        muchFoundForEach();
        nothingFromACall();
        joinedArguments();
        joinsTooDeep();
        hollowJoins();
        hollowAnimals();
        aMillionCalls();
        refused();
        CHECK.end();
    }

    private static void chains() {
        Worldage x = new Worldage();
        int dog = x.named(0, true);
        int three = x.ofInt(3);
        int a = x.node('a', 0, 0, 0);
        int one = x.node('n', 1, 0, 0);
        int zero = x.node('n', 0, 0, 0);
        int thrown = x.node('t', one, 0, 0);
        int object = x.node('o', dog, a, 0);
        int calls = x.node('+', x.node('c', 1, a, -1), x.node('c', 1, object, -1), 0);
        x.define(x.prepare(0, 1, -1, calls));
        x.define(x.prepare(1, 1, -1, one));
        x.define(x.prepare(1, dog, -1, x.node('c', 2, a, a)));
        x.define(x.prepare(2, dog, dog, one));
        x.define(x.prepare(2, 1, 1, one));
        CHECK.due("all four", 4, x.trim(0, 1, -1));
        CHECK.due("of one int", 4, x.trim(0, three, -1));
        CHECK.due("two", 2, x.trim(1, dog, -1));
        CHECK.due("one", 1, x.trim(1, 1, -1));
        CHECK.due("two arguments", 1, x.trim(2, 1, three));
        CHECK.due("nothing as an argument", 0, x.trim(0, 2, -1));
        CHECK.due("nothing as the second one", 0, x.trim(2, 1, 2));
        CHECK.due("even of a function that is not there", 0, x.trim(5, 2, -1));
        x.define(x.prepare(3, 1, -1, x.node('y', x.node('c', 5, thrown, -1), x.node('c', 1, a, -1), 0)));
        CHECK.due("a call with nothing", 2, x.trim(3, 1, -1));
        x.define(x.prepare(4, 1, -1, x.node('?', zero, x.node('c', 5, a, -1), one)));
        CHECK.due("a call that is not met", 1, x.trim(4, 1, -1));
        x.define(x.prepare(5, 1, -1, x.node('?', a, x.node('c', 5, a, -1), x.node('c', 4, a, -1))));
        CHECK.due("itself, once; and the other one", 2, x.trim(5, 1, -1));
        CHECK.due("by that what was not met is fixed", 1, x.trim(4, 1, -1));
    }

    private static void refusedCalls() {
        Worldage x = new Worldage();
        int animal = x.named(0, false);
        int dog = x.named(animal, true);
        int a = x.node('a', 0, 0, 0);
        int one = x.node('n', 1, 0, 0);
        x.define(x.prepare(0, dog, -1, one));
        x.define(x.prepare(1, 0, -1, x.node('c', 0, a, -1)));
        CHECK.throwing("not all animals", UnsupportedOperationException.class, () -> x.trim(0, animal, -1));
        CHECK.throwing("none at all", UnsupportedOperationException.class, () -> x.trim(0, 1, -1));
        CHECK.throwing("none with two", UnsupportedOperationException.class, () -> x.trim(0, dog, dog));
        CHECK.throwing("in a body", UnsupportedOperationException.class, () -> x.trim(1, animal, -1));
        CHECK.due("in a body with dogs", 2, x.trim(1, dog, -1));
        x.define(x.prepare(0, animal, -1, one));
        CHECK.throwing("two that meet", UnsupportedOperationException.class, () -> x.trim(0, dog, -1));
        x.takeAway(0);
        CHECK.due("one for all animals", 2, x.trim(1, animal, -1));
        x.define(x.prepare(2, 1, 1, one));
        CHECK.throwing("not all as the second one", UnsupportedOperationException.class, () -> x.trim(2, 1, 0));
        CHECK.throwing("not all as the first one", UnsupportedOperationException.class, () -> x.trim(2, 0, 1));
    }

    private static void lateNodes() {
        Worldage x = new Worldage();
        int a = x.node('a', 0, 0, 0);
        int zero = x.node('n', 0, 0, 0);
        int late = x.node('l', 1, a, -1);
        int defined = x.node('d', 0, 0, 0);
        x.define(x.prepare(0, 1, -1, x.node('?', zero, late, zero)));
        x.define(x.prepare(1, 1, -1, x.node('y', zero, defined, 0)));
        x.define(x.prepare(2, 1, -1, x.node('c', 1, a, -1)));
        x.define(x.prepare(3, 1, -1, x.node('?', zero, x.node('c', 1, a, -1), zero)));
        CHECK.throwing("l, even if it is not met", UnsupportedOperationException.class, () -> x.trim(0, 1, -1));
        CHECK.throwing("d", UnsupportedOperationException.class, () -> x.trim(1, 1, -1));
        CHECK.throwing("d in what is called", UnsupportedOperationException.class, () -> x.trim(2, 1, -1));
        CHECK.due("d in what is not called", 1, x.trim(3, 1, -1));
    }

    /** Calls with one int after the other have no end; the answer has. */
    private static void endless() {
        Worldage x = new Worldage();
        int a = x.node('a', 0, 0, 0);
        int one = x.node('n', 1, 0, 0);
        int more = x.node('+', a, one, 0);
        x.define(x.prepare(0, 1, -1, x.node('c', 0, more, -1)));
        CHECK.due("ints", 1, x.trim(0, 1, -1));
        int zero = x.ofInt(0);
        CHECK.due("one int after the other, in its own body", 1, x.trim(0, zero, -1));
        x.takeAway(0);
        for (int i = 0; i < 5; i++) {
            x.define(x.prepare(i, 1, -1, x.node('c', i + 1, a, -1)));
        }
        x.define(x.prepare(5, 1, -1, x.node('c', 0, more, -1)));
        CHECK.due("one int after the other", 6, x.trim(0, zero, -1));
    }

    /** Function 0 calls itself with the next int up to a limit, and then another one. */
    private static Worldage chainTo(int limit, int function) {
        Worldage x = new Worldage();
        int a = x.node('a', 0, 0, 0);
        int more = x.node('+', a, x.node('n', 1, 0, 0), 0);
        int isLess = x.node('<', a, x.node('n', limit, 0, 0), 0);
        int on = x.node('c', 0, more, -1);
        x.define(x.prepare(0, 1, -1, x.node('?', isLess, on, x.node('c', function, a, -1))));
        x.define(x.prepare(1, 0, -1, a));
        x.define(x.prepare(2, 0, -1, x.node('c', 0, a, -1)));
        x.define(x.prepare(3, 1, -1, x.node('d', 0, 0, 0)));
        x.ofInt(0);
        return x;
    }

    private static void longChains() {
        CHECK.due("nothing but itself behind the limit", 1, chainTo(5000, 0).trim(0, 3, -1));
        CHECK.due("another one behind the limit", 2, chainTo(5000, 1).trim(0, 3, -1));
        CHECK.due("far behind", 2, chainTo(100000, 1).trim(0, 3, -1));
        CHECK.due("another one that comes back", 2, chainTo(4999, 2).trim(2, 3, -1));
        Worldage late = chainTo(5000, 3);
        CHECK.throwing("one with d", UnsupportedOperationException.class, () -> late.trim(0, 3, -1));
        Worldage none = chainTo(5000, 4);
        CHECK.throwing("none", UnsupportedOperationException.class, () -> none.trim(0, 3, -1));
        none.define(none.prepare(4, 0, -1, 0));
        CHECK.due("one", 2, none.trim(0, 3, -1));
    }

    /**
     * Function 0 hands its second argument on, and behind a limit to function 1, with methods for ints and for dogs.
     */
    private static Worldage handOnTo(int limit) {
        Worldage x = new Worldage();
        int a = x.node('a', 0, 0, 0);
        int b = x.node('a', 1, 0, 0);
        int zero = x.node('n', 0, 0, 0);
        int isLess = x.node('<', a, x.node('n', limit, 0, 0), 0);
        int far = x.node('?', isLess, zero, x.node('c', 1, b, -1));
        int on = x.node('c', 0, x.node('+', a, x.node('n', 1, 0, 0), 0), b);
        int dog = x.named(0, true);
        x.define(x.prepare(0, 1, 1, x.node('+', x.node('+', far, x.node('c', 1, zero, -1), 0), on, 0)));
        x.define(x.prepare(1, 1, -1, zero));
        x.define(x.prepare(1, dog, -1, zero));
        x.ofInt(0);
        return x;
    }

    /** A type with a part that is below 2 can be below 1 and be met by what does not meet 1. */
    private static void hollowParts() {
        for (int limit = 1; limit <= 4000; limit *= 2) {
            Worldage x = handOnTo(limit);
            int hollow = x.union(2, 2);
            int left = x.union(hollow, 1);
            int right = x.union(1, hollow);
            int deep = x.union(2, right);
            int full = x.union(2, 1);
            CHECK.due("dogs meet it, limit " + limit, true, x.meet(left, 3) && x.meet(deep, 3) && !x.meet(full, 3));
            CHECK.due("ints, limit " + limit, 2, x.trim(0, 4, 1));
            for (int type : new int[] {hollow, left, right, deep}) {
                CHECK.throwing("type " + type + ", limit " + limit, UnsupportedOperationException.class,
                        () -> x.trim(0, 4, type));
            }
            CHECK.due("no part is hollow, limit " + limit, 2, x.trim(0, 4, full));
            x.takeAway(2);
            CHECK.due("no dogs any more, limit " + limit, 2, x.trim(0, 4, deep));
        }
    }

    /** What is handed on to a call far behind is told by its own parameter, not by the other one. */
    private static void handedOn() {
        for (int limit = 1; limit <= 2000; limit *= 10) {
            Worldage x = new Worldage();
            int a = x.node('a', 0, 0, 0);
            int b = x.node('a', 1, 0, 0);
            int zero = x.node('n', 0, 0, 0);
            int dog = x.named(0, true);
            int isLess = x.node('<', a, x.node('n', limit, 0, 0), 0);
            int far = x.node('?', isLess, zero, x.node('c', 1, b, -1));
            int more = x.node('+', a, x.node('n', 1, 0, 0), 0);
            int sum = x.node('y', x.node('y', far, x.node('c', 1, zero, -1), 0), x.node('c', 0, more, b), 0);
            x.define(x.prepare(0, 1, dog, sum));
            x.define(x.prepare(1, 1, -1, zero));
            x.define(x.prepare(1, dog, -1, zero));
            x.ofInt(0);
            CHECK.due("that for dogs, too, limit " + limit, 3, x.trim(0, 4, dog));
            int turned = x.node('?', isLess, zero, x.node('c', 1, x.node('f', b, 0, 0), -1));
            int object = x.node('c', 1, x.node('o', dog, zero, 0), -1);
            x.define(x.prepare(0, 1, dog, x.node('y', x.node('y', turned, object, 0), x.node('c', 0, more, b), 0)));
            CHECK.due("that for ints, too, limit " + limit, 3, x.trim(0, 4, dog));
        }
    }

    /** A body that is itself the call, and a method for one int alone, far on. */
    private static void farInt() {
        for (int far = 1; far <= 2000; far = 3 * far + 1) {
            Worldage x = new Worldage();
            int a = x.node('a', 0, 0, 0);
            int more = x.node('+', a, x.node('n', 1, 0, 0), 0);
            x.define(x.prepare(0, 1, -1, x.node('c', 1, more, -1)));
            x.define(x.prepare(1, 1, -1, x.node('c', 0, a, -1)));
            x.ofInt(0);
            CHECK.due("two", 2, x.trim(0, 3, -1));
            x.define(x.prepare(1, x.ofInt(far), -1, a));
            CHECK.throwing("the int " + far, UnsupportedOperationException.class, () -> x.trim(0, 3, -1));
        }
    }

    /** Two arguments that both have a part that is below 2 meet what neither of them would meet alone. */
    private static void twoHollowParts() {
        for (int limit = 1; limit <= 2000; limit *= 10) {
            Worldage x = new Worldage();
            int a = x.node('a', 0, 0, 0);
            int b = x.node('a', 1, 0, 0);
            int zero = x.node('n', 0, 0, 0);
            int dog = x.named(0, true);
            int isLess = x.node('<', a, x.node('n', limit, 0, 0), 0);
            int far = x.node('?', isLess, zero, x.node('c', 1, b, b));
            int more = x.node('+', a, x.node('n', 1, 0, 0), 0);
            int sum = x.node('+', far, x.node('c', 1, zero, zero), 0);
            x.define(x.prepare(0, 1, 1, x.node('+', sum, x.node('c', 0, more, b), 0)));
            x.define(x.prepare(1, 1, 1, zero));
            x.define(x.prepare(1, dog, dog, zero));
            x.ofInt(0);
            int hollow = x.union(2, 2);
            CHECK.due("ints, limit " + limit, 2, x.trim(0, 4, 1));
            CHECK.throwing("both, limit " + limit, UnsupportedOperationException.class, () -> x.trim(0, 4, hollow));
        }
    }

    /**
     * If the rounds do not end for a call, what its body's calls have is 0, and the next ones are reached with this.
     */
    private static void notEnded() {
        Worldage x = new Worldage();
        int dog = x.named(0, true);
        int a = x.node('a', 0, 0, 0);
        int self = x.node('c', 0, x.node('-', a, x.node('n', 1, 0, 0), 0), -1);
        int object = x.node('o', dog, a, 0);
        x.define(x.prepare(0, 1, -1, x.node('?', a, x.node('x', self, 0, 0), object)));
        CHECK.due("itself", 1, x.trim(0, 1, -1));
        x.define(x.prepare(1, 1, -1, x.node('c', 2, self, -1)));
        x.define(x.prepare(2, dog, -1, a));
        CHECK.throwing("no method for all", UnsupportedOperationException.class, () -> x.trim(1, 1, -1));
        x.define(x.prepare(2, x.boxBelow(0), -1, a));
        CHECK.throwing("boxes and dogs are not all", UnsupportedOperationException.class, () -> x.trim(1, 1, -1));
        x.takeAway(2);
        x.takeAway(3);
        x.define(x.prepare(2, 0, -1, a));
        CHECK.due("one for all", 3, x.trim(1, 1, -1));
        x.define(x.prepare(3, 1, -1, x.node('y', self, x.node('c', 2, x.node('c', 4, a, -1), -1), 0)));
        CHECK.throwing("a call that is not there", UnsupportedOperationException.class, () -> x.trim(3, 1, -1));
    }

    /** Puts nodes together by nodes y. */
    private static int eachOf(Worldage x, int[] nodes) {
        for (int left = nodes.length; left > 1; left = (left + 1) / 2) {
            for (int i = 0; i < left / 2; i++) {
                nodes[i] = x.node('y', nodes[i], nodes[left - 1 - i], 0);
            }
        }
        return nodes[0];
    }

    /** Calls of function 0 with so many times the argument, and with 1 more, 2 more and so on. */
    private static int[] spread(Worldage x, int wide, int more) {
        int times = x.node('*', x.node('a', 0, 0, 0), x.node('n', wide, 0, 0), 0);
        int[] calls = new int[wide + more];
        for (int i = 0; i < wide; i++) {
            calls[i] = x.node('c', 0, x.node('+', times, x.node('n', i, 0, 0), 0), -1);
        }
        return calls;
    }

    /** Each call finds many more when it is inferred, but what is met hangs on none of them. */
    private static void manyFound() {
        int[] wides = {2, 3, 4, 8, 12};
        int[] fars = {280000, 200000, 300000, 300000, 300000};
        for (int i = 0; i < wides.length; i++) {
            Worldage x = new Worldage();
            int one = x.ofInt(1);
            int far = x.ofInt(fars[i]);
            x.define(x.prepare(0, 1, -1, eachOf(x, spread(x, wides[i], 0))));
            CHECK.due("no other one, wide " + wides[i], 1, x.trim(0, one, -1));
            x.define(x.prepare(0, far, -1, 0));
            CHECK.throwing("one far on, wide " + wides[i], UnsupportedOperationException.class,
                    () -> x.trim(0, one, -1));
            CHECK.throwing("itself", UnsupportedOperationException.class, () -> x.trim(0, far, -1));
        }
    }

    /** Beside them there is a call with what a call has: that is inferred, and has what it reaches reached. */
    private static void hangingCalls() {
        Worldage x = new Worldage();
        int one = x.ofInt(1);
        int[] calls = spread(x, 4, 1);
        calls[4] = x.node('c', 1, calls[0], -1);
        int zero = x.node('n', 0, 0, 0);
        int body = eachOf(x, calls);
        int isFar = x.node('<', x.node('n', 3000, 0, 0), 0, 0);
        x.define(x.prepare(0, 1, -1, body));
        CHECK.throwing("none", UnsupportedOperationException.class, () -> x.trim(0, one, -1));
        x.define(x.prepare(1, 0, -1, x.node('c', 2, 0, -1)));
        CHECK.throwing("none behind it", UnsupportedOperationException.class, () -> x.trim(0, one, -1));
        x.define(x.prepare(2, 1, -1, zero));
        CHECK.throwing("one for ints", UnsupportedOperationException.class, () -> x.trim(0, one, -1));
        x.define(x.prepare(2, 0, -1, zero));
        CHECK.throwing("two that meet", UnsupportedOperationException.class, () -> x.trim(0, one, -1));
        x.takeAway(2);
        CHECK.due("one for all", 3, x.trim(0, one, -1));
        x.define(x.prepare(0, x.ofInt(300000), -1, zero));
        CHECK.throwing("one far on", UnsupportedOperationException.class, () -> x.trim(0, one, -1));
        x.takeAway(4);
        x.takeAway(0);
        x.define(x.prepare(0, 1, -1, x.node('?', isFar, x.node('c', 3, x.node('c', 1, 0, -1), -1), body)));
        CHECK.throwing("one that is called far on", UnsupportedOperationException.class, () -> x.trim(0, one, -1));
        x.define(x.prepare(3, 0, -1, x.node('c', 4, 0, -1)));
        x.define(x.prepare(4, 0, -1, zero));
        CHECK.due("all", 5, x.trim(0, one, -1));
    }

    /** Each call hangs on whether another one has an int, and what that calls far on has no method. */
    private static void hangingChain() {
        Worldage x = new Worldage();
        int zero = x.ofInt(0);
        int a = x.node('a', 0, 0, 0);
        int one = x.node('n', 1, 0, 0);
        int more = x.node('c', 0, x.node('+', a, one, 0), -1);
        x.define(x.prepare(0, 1, -1, x.node('?', x.node('c', 1, a, -1), more, one)));
        x.define(x.prepare(1, 1, -1, a));
        CHECK.due("two", 2, x.trim(0, zero, -1));
        x.define(x.prepare(0, x.ofInt(5000), -1, one));
        CHECK.throwing("one far on", UnsupportedOperationException.class, () -> x.trim(0, zero, -1));
        x.define(x.prepare(1, 1, -1, x.node('t', a, 0, 0)));
        CHECK.due("nothing to hang on", 2, x.trim(0, zero, -1));
        x.define(x.prepare(1, 1, -1, x.node('x', a, 0, 0)));
        CHECK.due("a box is no int", 2, x.trim(0, zero, -1));
        int isLess = x.node('<', a, x.node('n', 3000, 0, 0), 0);
        x.define(x.prepare(1, 1, -1, x.node('?', isLess, a, x.node('c', 2, a, -1))));
        CHECK.throwing("one behind a limit", UnsupportedOperationException.class, () -> x.trim(0, zero, -1));
        x.define(x.prepare(2, 1, -1, x.node('t', a, 0, 0)));
        CHECK.due("nothing behind a limit", 3, x.trim(0, zero, -1));
    }

    /** Only the second argument is what a call has. */
    private static void hangingSecond() {
        Worldage x = new Worldage();
        int five = x.ofInt(5);
        int a = x.node('a', 0, 0, 0);
        x.define(x.prepare(0, 1, -1, x.node('c', 1, a, x.node('c', 2, a, -1))));
        x.define(x.prepare(2, 1, -1, a));
        CHECK.throwing("none", UnsupportedOperationException.class, () -> x.trim(0, five, -1));
        x.define(x.prepare(1, 1, 1, a));
        CHECK.due("all three", 3, x.trim(0, five, -1));
        x.define(x.prepare(1, five, 1, x.node('l', 2, a, -1)));
        CHECK.throwing("one more for the first one", UnsupportedOperationException.class, () -> x.trim(0, five, -1));
        x.takeAway(2);
        CHECK.throwing("the late node", UnsupportedOperationException.class, () -> x.trim(0, five, -1));
    }

    /**
     * Ints up to a limit: each one finds many calls, calls one that hangs on none, and one more with what another one
     * has; this one int alone also a third one.
     */
    private static Worldage upTo(int limit, int alone) {
        Worldage x = new Worldage();
        int a = x.node('a', 0, 0, 0);
        int one = x.node('n', 1, 0, 0);
        int[] calls = new int[14];
        for (int i = 0; i < 14; i++) {
            calls[i] = x.node('c', 0, x.node('+', a, x.node('n', 1 + 37 * i, 0, 0), 0), -1);
        }
        int hanging = x.node('y', x.node('c', 1, calls[0], -1), x.node('c', 3, a, -1), 0);
        int isLess = x.node('<', a, x.node('n', limit, 0, 0), 0);
        int isAlone = x.node('<', x.node('*', x.node('-', a, x.node('n', alone, 0, 0), 0),
                x.node('-', a, x.node('n', alone, 0, 0), 0), 0), one, 0);
        int third = x.node('?', isAlone, x.node('c', 2, calls[0], -1), one);
        int body = x.node('y', x.node('y', eachOf(x, calls), hanging, 0), third, 0);
        x.define(x.prepare(0, 1, -1, x.node('?', isLess, body, one)));
        x.define(x.prepare(1, 0, -1, one));
        x.define(x.prepare(3, 0, -1, one));
        x.ofInt(0);
        return x;
    }

    private static void muchFoundForEach() {
        for (int alone = 0; alone <= 2000; alone = 2 * alone + 1) {
            Worldage x = upTo(2000, alone);
            CHECK.throwing("none for " + alone, UnsupportedOperationException.class, () -> x.trim(0, 3, -1));
        }
        Worldage last = upTo(2000, 1999);
        CHECK.throwing("none for the last one", UnsupportedOperationException.class, () -> last.trim(0, 3, -1));
        last.define(last.prepare(2, 0, -1, 0));
        CHECK.due("all four", 4, last.trim(0, 3, -1));
        CHECK.due("none far on", 3, upTo(2000, 2000).trim(0, 3, -1));
    }

    /** What is met with nothing that a call has is not reached; nor is what hangs on a box. */
    private static void nothingFromACall() {
        Worldage x = new Worldage();
        int five = x.ofInt(5);
        int a = x.node('a', 0, 0, 0);
        int thrown = x.node('t', a, 0, 0);
        int called = x.node('c', 1, a, -1);
        int boxed = x.node('x', called, 0, 0);
        x.define(x.prepare(1, 1, -1, thrown));
        int[] calls = {called, x.node('c', 2, called, -1), x.node('c', 2, boxed, -1),
                x.node('c', 2, x.node('u', called, 0, 0), -1), x.node('c', 2, x.node('+', a, called, 0), -1),
                x.node('c', 2, a, called), x.node('c', 2, called, a)};
        x.define(x.prepare(0, 1, -1, eachOf(x, calls)));
        CHECK.due("itself and what throws", 2, x.trim(0, five, -1));
        CHECK.due("with all ints", 2, x.trim(0, 1, -1));
        x.define(x.prepare(1, 1, -1, a));
        CHECK.throwing("now there is something", UnsupportedOperationException.class, () -> x.trim(0, five, -1));
        int joined = x.node('y', thrown, called, 0);
        x.define(x.prepare(0, 1, -1, x.node('c', 3, joined, x.node('x', joined, 0, 0))));
        x.define(x.prepare(3, 1, x.box(1), x.node('a', 1, 0, 0)));
        CHECK.due("an int and a box with it", 3, x.trim(0, five, -1));
        x.define(x.prepare(3, 1, 1, a));
        CHECK.due("one that a box does not meet", 3, x.trim(0, five, -1));
        x.define(x.prepare(3, 1, x.boxBelow(0), a));
        CHECK.throwing("one that it meets", UnsupportedOperationException.class, () -> x.trim(0, five, -1));
    }

    /** Ever new unions of ints are ints all the same, so that nothing else is reached. */
    private static void joinedArguments() {
        Worldage x = new Worldage();
        int zero = x.ofInt(0);
        int dog = x.named(0, true);
        int a = x.node('a', 0, 0, 0);
        int b = x.node('a', 1, 0, 0);
        int one = x.node('n', 1, 0, 0);
        int more = x.node('+', a, one, 0);
        x.define(x.prepare(0, 1, 1, x.node('c', 0, more, x.node('y', a, one, 0))));
        x.define(x.prepare(0, 1, dog, x.node('c', 0, more, b)));
        CHECK.due("ints", 1, x.trim(0, zero, zero));
        CHECK.due("dogs", 1, x.trim(0, zero, dog));
        int far = x.node('<', x.node('n', 900, 0, 0), a, 0);
        int object = x.node('o', dog, a, 0);
        x.define(x.prepare(0, 1, 1, x.node('c', 0, more, x.node('?', far, object, a))));
        CHECK.due("ints and far on dogs", 2, x.trim(0, zero, 1));
        x.define(x.prepare(0, 1, 1, x.node('c', 0, more, x.node('?', far, x.node('y', object, a, 0), a))));
        CHECK.throwing("far on one of both", UnsupportedOperationException.class, () -> x.trim(0, zero, 1));
        x.define(x.prepare(0, 1, 1, x.node('c', 0, more, x.node('?', far, x.node('y', a, object, 0), a))));
        CHECK.throwing("far on the other one", UnsupportedOperationException.class, () -> x.trim(0, zero, 1));
        int near = x.node('<', a, x.node('n', 900, 0, 0), 0);
        x.define(x.prepare(0, 1, 1, x.node('c', 0, more, x.node('?', near, a, object))));
        CHECK.due("near ints", 2, x.trim(0, zero, 1));
        int thrown = x.node('t', a, 0, 0);
        x.define(x.prepare(0, 1, 1, x.node('c', 0, more, x.node('?', far, x.node('y', thrown, object, 0), thrown))));
        CHECK.due("nothing", 1, x.trim(0, zero, 1));
        int missing = x.node('c', 1, x.node('y', b, thrown, 0), -1);
        x.define(x.prepare(1, 1, -1, x.node('y', x.node('c', 1, more, -1), missing, 0)));
        CHECK.due("an argument that is not there", 1, x.trim(1, zero, -1));
    }

    /** A join that would be too deep is 0: far on, as long as the argument is handed on as it is up to a limit. */
    private static void joinsTooDeep() {
        for (int limit = 1; limit <= 3000; limit = 5 * limit + 2) {
            Worldage x = new Worldage();
            int a = x.node('a', 0, 0, 0);
            int b = x.node('a', 1, 0, 0);
            int one = x.node('n', 1, 0, 0);
            int more = x.node('+', a, one, 0);
            int isLess = x.node('<', a, x.node('n', limit, 0, 0), 0);
            int zero = x.ofInt(0);
            x.define(x.prepare(0, 1, 1, x.node('c', 0, more, x.node('?', isLess, b, x.node('y', b, more, 0)))));
            CHECK.throwing("limit " + limit, UnsupportedOperationException.class, () -> x.trim(0, zero, zero));
            x.define(x.prepare(0, 1, 1, x.node('c', 0, more, x.node('y', isLess, more, 0))));
            CHECK.due("not so deep, limit " + limit, 1, x.trim(0, zero, zero));
        }
    }

    /** A join with a part that is below 2 has it, too. */
    private static void hollowJoins() {
        for (int limit = 1; limit <= 2000; limit *= 10) {
            Worldage x = new Worldage();
            int a = x.node('a', 0, 0, 0);
            int b = x.node('a', 1, 0, 0);
            int zero = x.node('n', 0, 0, 0);
            int dog = x.named(0, true);
            int isLess = x.node('<', a, x.node('n', limit, 0, 0), 0);
            int far = x.node('?', isLess, zero, x.node('c', 1, x.node('y', zero, b, 0), -1));
            int on = x.node('c', 0, x.node('+', a, x.node('n', 1, 0, 0), 0), b);
            x.define(x.prepare(0, 1, 1, x.node('y', x.node('y', far, x.node('c', 1, zero, -1), 0), on, 0)));
            x.define(x.prepare(1, 1, -1, zero));
            x.define(x.prepare(1, dog, -1, zero));
            int start = x.ofInt(0);
            int hollow = x.union(1, x.union(2, 2));
            CHECK.due("ints, limit " + limit, 2, x.trim(0, start, 1));
            CHECK.throwing("limit " + limit, UnsupportedOperationException.class, () -> x.trim(0, start, hollow));
        }
    }

    /** One argument is above the other one, which has a part that is below 2: a join with it has this part, too. */
    private static void hollowAnimals() {
        for (int limit = 1; limit <= 2000; limit *= 10) {
            Worldage x = new Worldage();
            int a = x.node('a', 0, 0, 0);
            int b = x.node('a', 1, 0, 0);
            int zero = x.node('n', 0, 0, 0);
            int animal = x.named(0, false);
            int dog = x.named(animal, true);
            int object = x.node('o', dog, zero, 0);
            int isLess = x.node('<', a, x.node('n', limit, 0, 0), 0);
            int far = x.node('?', isLess, zero, x.node('c', 1, x.node('y', object, b, 0), -1));
            int on = x.node('c', 0, x.node('+', a, x.node('n', 1, 0, 0), 0), b);
            x.define(x.prepare(0, 1, animal, x.node('y', x.node('y', far, x.node('c', 1, object, -1), 0), on, 0)));
            x.define(x.prepare(1, 1, -1, zero));
            x.define(x.prepare(1, animal, -1, zero));
            x.define(x.prepare(2, animal, animal, x.node('y', x.node('c', 0, zero, a), x.node('c', 0, zero, b), 0)));
            int hollow = x.union(dog, x.union(2, 2));
            CHECK.due("animals, limit " + limit, 3, x.trim(2, animal, animal));
            CHECK.throwing("limit " + limit, UnsupportedOperationException.class, () -> x.trim(2, animal, hollow));
        }
    }

    /** Calls are looked at that the last one of a million that trim goes through makes. */
    private static void aMillionCalls() {
        Worldage x = new Worldage();
        int zero = x.ofInt(0);
        int a = x.node('a', 0, 0, 0);
        x.define(x.prepare(0, 1, -1, x.node('c', 0, x.node('+', a, x.node('n', 1, 0, 0), 0), -1)));
        x.define(x.prepare(0, x.ofInt(1000000), -1, a));
        CHECK.throwing("a million", UnsupportedOperationException.class, () -> x.trim(0, zero, -1));
        x.takeAway(1);
        CHECK.due("none", 1, x.trim(0, zero, -1));
    }

    private static void refused() {
        Worldage x = new Worldage();
        CHECK.throwing("function 6", IllegalArgumentException.class, () -> x.trim(6, 99, -1));
        CHECK.throwing("function -1", IllegalArgumentException.class, () -> x.trim(-1, 1, -1));
        CHECK.throwing("no type", NoSuchElementException.class, () -> x.trim(0, 3, -1));
        CHECK.throwing("first -1", NoSuchElementException.class, () -> x.trim(0, -1, -1));
        CHECK.throwing("second -2", NoSuchElementException.class, () -> x.trim(0, 1, -2));
    }
}
