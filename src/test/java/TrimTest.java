import java.util.NoSuchElementException;

/** Promise 31: trim. */
public final class TrimTest {
    private static final Check CHECK = new Check();

    public static void main(String[] args) {
        chains();
        refusedCalls();
        lateNodes();
        endless();
        longChains();
        hollowParts();
        handedOn();
        farInt();
        twoHollowParts();
        notEnded();
        refused();
        CHECK.end();
    }

    private static void chains() {
        Worldage x = new Worldage();
        int dog = x.named(0, true);
        int three = x.ofInt(3);
        int a = x.node('a', 0, 0, 0);
        int one = x.node('n', 1, 0, 0);
        int zero = x.node('n', 0, 0, 0);
        int thrown = x.node('t', one, 0, 0);
        int object = x.node('o', dog, a, 0);
        int calls = x.node('+', x.node('c', 1, a, -1), x.node('c', 1, object, -1), 0);
        x.define(x.prepare(0, 1, -1, calls));
        x.define(x.prepare(1, 1, -1, one));
        x.define(x.prepare(1, dog, -1, x.node('c', 2, a, a)));
        x.define(x.prepare(2, dog, dog, one));
        x.define(x.prepare(2, 1, 1, one));
        CHECK.due("all four", 4, x.trim(0, 1, -1));
        CHECK.due("of one int", 4, x.trim(0, three, -1));
        CHECK.due("two", 2, x.trim(1, dog, -1));
        CHECK.due("one", 1, x.trim(1, 1, -1));
        CHECK.due("two arguments", 1, x.trim(2, 1, three));
        CHECK.due("nothing as an argument", 0, x.trim(0, 2, -1));
        CHECK.due("nothing as the second one", 0, x.trim(2, 1, 2));
        CHECK.due("even of a function that is not there", 0, x.trim(5, 2, -1));
        x.define(x.prepare(3, 1, -1, x.node('y', x.node('c', 5, thrown, -1), x.node('c', 1, a, -1), 0)));
        CHECK.due("a call with nothing", 2, x.trim(3, 1, -1));
        x.define(x.prepare(4, 1, -1, x.node('?', zero, x.node('c', 5, a, -1), one)));
        CHECK.due("a call that is not met", 1, x.trim(4, 1, -1));
        x.define(x.prepare(5, 1, -1, x.node('?', a, x.node('c', 5, a, -1), x.node('c', 4, a, -1))));
        CHECK.due("itself, once; and the other one", 2, x.trim(5, 1, -1));
        CHECK.due("by that what was not met is fixed", 1, x.trim(4, 1, -1));
    }

    private static void refusedCalls() {
        Worldage x = new Worldage();
        int animal = x.named(0, false);
        int dog = x.named(animal, true);
        int a = x.node('a', 0, 0, 0);
        int one = x.node('n', 1, 0, 0);
        x.define(x.prepare(0, dog, -1, one));
        x.define(x.prepare(1, 0, -1, x.node('c', 0, a, -1)));
        CHECK.throwing("not all animals", UnsupportedOperationException.class, () -> x.trim(0, animal, -1));
        CHECK.throwing("none at all", UnsupportedOperationException.class, () -> x.trim(0, 1, -1));
        CHECK.throwing("none with two", UnsupportedOperationException.class, () -> x.trim(0, dog, dog));
        CHECK.throwing("in a body", UnsupportedOperationException.class, () -> x.trim(1, animal, -1));
        CHECK.due("in a body with dogs", 2, x.trim(1, dog, -1));
        x.define(x.prepare(0, animal, -1, one));
        CHECK.throwing("two that meet", UnsupportedOperationException.class, () -> x.trim(0, dog, -1));
        x.takeAway(0);
        CHECK.due("one for all animals", 2, x.trim(1, animal, -1));
        x.define(x.prepare(2, 1, 1, one));
        CHECK.throwing("not all as the second one", UnsupportedOperationException.class, () -> x.trim(2, 1, 0));
        CHECK.throwing("not all as the first one", UnsupportedOperationException.class, () -> x.trim(2, 0, 1));
    }

    private static void lateNodes() {
        Worldage x = new Worldage();
        int a = x.node('a', 0, 0, 0);
        int zero = x.node('n', 0, 0, 0);
        int late = x.node('l', 1, a, -1);
        int defined = x.node('d', 0, 0, 0);
        x.define(x.prepare(0, 1, -1, x.node('?', zero, late, zero)));
        x.define(x.prepare(1, 1, -1, x.node('y', zero, defined, 0)));
        x.define(x.prepare(2, 1, -1, x.node('c', 1, a, -1)));
        x.define(x.prepare(3, 1, -1, x.node('?', zero, x.node('c', 1, a, -1), zero)));
        CHECK.throwing("l, even if it is not met", UnsupportedOperationException.class, () -> x.trim(0, 1, -1));
        CHECK.throwing("d", UnsupportedOperationException.class, () -> x.trim(1, 1, -1));
        CHECK.throwing("d in what is called", UnsupportedOperationException.class, () -> x.trim(2, 1, -1));
        CHECK.due("d in what is not called", 1, x.trim(3, 1, -1));
    }

    /** Calls with one int after the other have no end; the answer has. */
    private static void endless() {
        Worldage x = new Worldage();
        int a = x.node('a', 0, 0, 0);
        int one = x.node('n', 1, 0, 0);
        int more = x.node('+', a, one, 0);
        x.define(x.prepare(0, 1, -1, x.node('c', 0, more, -1)));
        CHECK.due("ints", 1, x.trim(0, 1, -1));
        int zero = x.ofInt(0);
        CHECK.due("one int after the other, in its own body", 1, x.trim(0, zero, -1));
        x.takeAway(0);
        for (int i = 0; i < 5; i++) {
            x.define(x.prepare(i, 1, -1, x.node('c', i + 1, a, -1)));
        }
        x.define(x.prepare(5, 1, -1, x.node('c', 0, more, -1)));
        CHECK.due("one int after the other", 6, x.trim(0, zero, -1));
    }

    /** Function 0 calls itself with the next int up to a limit, and then another one. */
    private static Worldage chainTo(int limit, int function) {
        Worldage x = new Worldage();
        int a = x.node('a', 0, 0, 0);
        int more = x.node('+', a, x.node('n', 1, 0, 0), 0);
        int isLess = x.node('<', a, x.node('n', limit, 0, 0), 0);
        int on = x.node('c', 0, more, -1);
        x.define(x.prepare(0, 1, -1, x.node('?', isLess, on, x.node('c', function, a, -1))));
        x.define(x.prepare(1, 0, -1, a));
        x.define(x.prepare(2, 0, -1, x.node('c', 0, a, -1)));
        x.define(x.prepare(3, 1, -1, x.node('d', 0, 0, 0)));
        x.ofInt(0);
        return x;
    }

    private static void longChains() {
        CHECK.due("nothing but itself behind the limit", 1, chainTo(5000, 0).trim(0, 3, -1));
        CHECK.due("another one behind the limit", 2, chainTo(5000, 1).trim(0, 3, -1));
        CHECK.due("far behind", 2, chainTo(100000, 1).trim(0, 3, -1));
        CHECK.due("another one that comes back", 2, chainTo(4999, 2).trim(2, 3, -1));
        Worldage late = chainTo(5000, 3);
        CHECK.throwing("one with d", UnsupportedOperationException.class, () -> late.trim(0, 3, -1));
        Worldage none = chainTo(5000, 4);
        CHECK.throwing("none", UnsupportedOperationException.class, () -> none.trim(0, 3, -1));
        none.define(none.prepare(4, 0, -1, 0));
        CHECK.due("one", 2, none.trim(0, 3, -1));
    }

    /**
     * Function 0 hands its second argument on, and behind a limit to function 1, with methods for ints and for dogs.
     */
    private static Worldage handOnTo(int limit) {
        Worldage x = new Worldage();
        int a = x.node('a', 0, 0, 0);
        int b = x.node('a', 1, 0, 0);
        int zero = x.node('n', 0, 0, 0);
        int isLess = x.node('<', a, x.node('n', limit, 0, 0), 0);
        int far = x.node('?', isLess, zero, x.node('c', 1, b, -1));
        int on = x.node('c', 0, x.node('+', a, x.node('n', 1, 0, 0), 0), b);
        int dog = x.named(0, true);
        x.define(x.prepare(0, 1, 1, x.node('+', x.node('+', far, x.node('c', 1, zero, -1), 0), on, 0)));
        x.define(x.prepare(1, 1, -1, zero));
        x.define(x.prepare(1, dog, -1, zero));
        x.ofInt(0);
        return x;
    }

    /** A type with a part that is below 2 can be below 1 and be met by what does not meet 1. */
    private static void hollowParts() {
        for (int limit = 1; limit <= 4000; limit *= 2) {
            Worldage x = handOnTo(limit);
            int hollow = x.union(2, 2);
            int left = x.union(hollow, 1);
            int right = x.union(1, hollow);
            int deep = x.union(2, right);
            int full = x.union(2, 1);
            CHECK.due("dogs meet it, limit " + limit, true, x.meet(left, 3) && x.meet(deep, 3) && !x.meet(full, 3));
            CHECK.due("ints, limit " + limit, 2, x.trim(0, 4, 1));
            for (int type : new int[] {hollow, left, right, deep}) {
                CHECK.throwing("type " + type + ", limit " + limit, UnsupportedOperationException.class,
                        () -> x.trim(0, 4, type));
            }
            CHECK.due("no part is hollow, limit " + limit, 2, x.trim(0, 4, full));
            x.takeAway(2);
            CHECK.due("no dogs any more, limit " + limit, 2, x.trim(0, 4, deep));
        }
    }

    /** What is handed on to a call far behind is told by its own parameter, not by the other one. */
    private static void handedOn() {
        for (int limit = 1; limit <= 2000; limit *= 10) {
            Worldage x = new Worldage();
            int a = x.node('a', 0, 0, 0);
            int b = x.node('a', 1, 0, 0);
            int zero = x.node('n', 0, 0, 0);
            int dog = x.named(0, true);
            int isLess = x.node('<', a, x.node('n', limit, 0, 0), 0);
            int far = x.node('?', isLess, zero, x.node('c', 1, b, -1));
            int more = x.node('+', a, x.node('n', 1, 0, 0), 0);
            int sum = x.node('y', x.node('y', far, x.node('c', 1, zero, -1), 0), x.node('c', 0, more, b), 0);
            x.define(x.prepare(0, 1, dog, sum));
            x.define(x.prepare(1, 1, -1, zero));
            x.define(x.prepare(1, dog, -1, zero));
            x.ofInt(0);
            CHECK.due("that for dogs, too, limit " + limit, 3, x.trim(0, 4, dog));
            int turned = x.node('?', isLess, zero, x.node('c', 1, x.node('f', b, 0, 0), -1));
            int object = x.node('c', 1, x.node('o', dog, zero, 0), -1);
            x.define(x.prepare(0, 1, dog, x.node('y', x.node('y', turned, object, 0), x.node('c', 0, more, b), 0)));
            CHECK.due("that for ints, too, limit " + limit, 3, x.trim(0, 4, dog));
        }
    }

    /** A body that is itself the call, and a method for one int alone, far on. */
    private static void farInt() {
        for (int far = 1; far <= 2000; far = 3 * far + 1) {
            Worldage x = new Worldage();
            int a = x.node('a', 0, 0, 0);
            int more = x.node('+', a, x.node('n', 1, 0, 0), 0);
            x.define(x.prepare(0, 1, -1, x.node('c', 1, more, -1)));
            x.define(x.prepare(1, 1, -1, x.node('c', 0, a, -1)));
            x.ofInt(0);
            CHECK.due("two", 2, x.trim(0, 3, -1));
            x.define(x.prepare(1, x.ofInt(far), -1, a));
            CHECK.throwing("the int " + far, UnsupportedOperationException.class, () -> x.trim(0, 3, -1));
        }
    }

    /** Two arguments that both have a part that is below 2 meet what neither of them would meet alone. */
    private static void twoHollowParts() {
        for (int limit = 1; limit <= 2000; limit *= 10) {
            Worldage x = new Worldage();
            int a = x.node('a', 0, 0, 0);
            int b = x.node('a', 1, 0, 0);
            int zero = x.node('n', 0, 0, 0);
            int dog = x.named(0, true);
            int isLess = x.node('<', a, x.node('n', limit, 0, 0), 0);
            int far = x.node('?', isLess, zero, x.node('c', 1, b, b));
            int more = x.node('+', a, x.node('n', 1, 0, 0), 0);
            int sum = x.node('+', far, x.node('c', 1, zero, zero), 0);
            x.define(x.prepare(0, 1, 1, x.node('+', sum, x.node('c', 0, more, b), 0)));
            x.define(x.prepare(1, 1, 1, zero));
            x.define(x.prepare(1, dog, dog, zero));
            x.ofInt(0);
            int hollow = x.union(2, 2);
            CHECK.due("ints, limit " + limit, 2, x.trim(0, 4, 1));
            CHECK.throwing("both, limit " + limit, UnsupportedOperationException.class, () -> x.trim(0, 4, hollow));
        }
    }

    /**
     * If the rounds do not end for a call, what its body's calls have is 0, and the next ones are reached with this.
     */
    private static void notEnded() {
        Worldage x = new Worldage();
        int dog = x.named(0, true);
        int a = x.node('a', 0, 0, 0);
        int self = x.node('c', 0, x.node('-', a, x.node('n', 1, 0, 0), 0), -1);
        int object = x.node('o', dog, a, 0);
        x.define(x.prepare(0, 1, -1, x.node('?', a, x.node('x', self, 0, 0), object)));
        CHECK.due("itself", 1, x.trim(0, 1, -1));
        x.define(x.prepare(1, 1, -1, x.node('c', 2, self, -1)));
        x.define(x.prepare(2, dog, -1, a));
        CHECK.throwing("no method for all", UnsupportedOperationException.class, () -> x.trim(1, 1, -1));
        x.define(x.prepare(2, x.boxBelow(0), -1, a));
        CHECK.throwing("boxes and dogs are not all", UnsupportedOperationException.class, () -> x.trim(1, 1, -1));
        x.takeAway(2);
        x.takeAway(3);
        x.define(x.prepare(2, 0, -1, a));
        CHECK.due("one for all", 3, x.trim(1, 1, -1));
        x.define(x.prepare(3, 1, -1, x.node('y', self, x.node('c', 2, x.node('c', 4, a, -1), -1), 0)));
        CHECK.throwing("a call that is not there", UnsupportedOperationException.class, () -> x.trim(3, 1, -1));
    }

    private static void refused() {
        Worldage x = new Worldage();
        CHECK.throwing("function 6", IllegalArgumentException.class, () -> x.trim(6, 99, -1));
        CHECK.throwing("function -1", IllegalArgumentException.class, () -> x.trim(-1, 1, -1));
        CHECK.throwing("no type", NoSuchElementException.class, () -> x.trim(0, 3, -1));
        CHECK.throwing("first -1", NoSuchElementException.class, () -> x.trim(0, -1, -1));
        CHECK.throwing("second -2", NoSuchElementException.class, () -> x.trim(0, 1, -2));
    }
}
