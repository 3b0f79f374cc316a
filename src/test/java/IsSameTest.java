import java.util.NoSuchElementException;

/** Promise 32: isSame. */
public final class IsSameTest {
    private static final Check CHECK = new Check();
    private static final int NO = Integer.MIN_VALUE;

    public static void main(String[] args) {
        Worldage x = new Worldage();
        int dog = x.named(0, true);
        int a = x.node('a', 0, 0, 0);
        int one = x.node('n', 1, 0, 0);
        int object = x.node('o', dog, a, 0);
        int thrown = x.node('t', a, 0, 0);
        int self = x.node('c', 3, a, -1);
        x.define(x.prepare(0, 1, -1, x.node('+', a, one, 0)));
        x.define(x.prepare(0, 1, 1, object));
        x.define(x.prepare(1, 1, -1, thrown));
        x.define(x.prepare(2, 1, -1, x.node('d', 0, 0, 0)));
        x.define(x.prepare(3, 1, -1, self));
        int late = x.prepare(5, 1, -1, one);
        x.define(x.prepare(4, 1, -1, x.node('+', x.node('d', late, 0, 0), a, 0)));
        CHECK.due("isSame", true, x.isSame(0, 5, NO, 99));
        CHECK.throwing("no run yet", NoSuchElementException.class, x::result);
        CHECK.due("no steps", 0, x.allSteps());
        CHECK.due("code stays", 1, x.codes());
        x.run(0, 5, NO, 99, false);
        CHECK.due("run", 6, x.result());
        CHECK.due("an object", true, x.isSame(0, 5, 6, 99));
        CHECK.due("thrown", true, x.isSame(1, 5, NO, 99));
        CHECK.due("no method", true, x.isSame(5, 5, NO, 99));
        CHECK.due("no end", true, x.isSame(3, 5, NO, 99));
        CHECK.due("too few steps", true, x.isSame(0, 5, NO, 1));
        CHECK.due("an error d", true, x.isSame(2, 5, NO, 99));
        int age = x.age();
        CHECK.due("a node d", true, x.isSame(4, 5, NO, 99));
        CHECK.due("is not done", age, x.age());
        CHECK.due("what it would define is not there", false, x.isThere(late, age));
        CHECK.due("nor is the age another one", age, x.age());
        CHECK.due("the last run stays", 6, x.result());
        CHECK.due("its type", 1, x.resultType());
        CHECK.due("its steps", 3, x.steps());
        CHECK.due("its lookups", 1, x.lookups());
        CHECK.due("what it took", 0, x.taken());
        CHECK.due("all steps", 3, x.allSteps());
        CHECK.due("codes", 7, x.codes());
        x.define(x.prepare(5, 1, 1, x.node('c', 0, a, one)));
        CHECK.due("a call in a call", true, x.isSame(5, 5, 6, 99));
        CHECK.due("one code more, as the other is there", 8, x.codes());
        x.takeAway(1);
        CHECK.due("no method within", true, x.isSame(5, 5, 6, 99));
        CHECK.due("two more", 10, x.codes());
        CHECK.due("done again", age + 3, x.define(1));
        age = age + 2 + 1;
        CHECK.due("a run does it", 'v', x.run(4, 5, NO, 99, true));
        CHECK.due("the age is greater", age + 1, x.age());
        CHECK.throwing("function 6", IllegalArgumentException.class, () -> x.isSame(6, 1, NO, 9));
        CHECK.throwing("function -1", IllegalArgumentException.class, () -> x.isSame(-1, 1, NO, 9));
        CHECK.throwing("0 steps", IllegalArgumentException.class, () -> x.isSame(0, 1, NO, 0));
        CHECK.throwing("1001 steps", IllegalArgumentException.class, () -> x.isSame(0, 1, NO, 1001));
        beginningD();
        stepsAllowed();
        roundsNotEnded();
        CHECK.end();
    }

    /** "would begin a node d, at which it ends": one that is not begun is no end, what would follow is not done. */
    private static void beginningD() {
        Worldage x = new Worldage();
        int a = x.node('a', 0, 0, 0);
        int late = x.prepare(5, 1, -1, a);
        int defined = x.node('d', late, 0, 0);
        int call = x.node('c', 1, a, -1);
        x.define(x.prepare(0, 1, -1, x.node('?', a, x.node('+', defined, call, 0), call)));
        x.define(x.prepare(1, 1, -1, a));
        CHECK.due("not begun", true, x.isSame(0, 0, NO, 99));
        CHECK.due("what is called makes code", 2, x.codes());
        x.takeAway(2);
        x.define(2);
        CHECK.due("begun", true, x.isSame(0, 1, NO, 99));
        CHECK.due("what would follow is not called", 3, x.codes());
        CHECK.due("age", 4, x.age());
        CHECK.due("not there", false, x.isThere(late, 4));
        CHECK.due("caught by none", true, x.isSame(0, -1, NO, 99));
        CHECK.due("a run defines it", 'v', x.run(0, 1, NO, 99, true));
        CHECK.due("age 5, and 1", 6, x.result());
        CHECK.due("begun though it is there", true, x.isSame(0, 1, NO, 99));
        CHECK.due("age", 5, x.age());
        CHECK.due("the last run stays", 6, x.result());
    }

    /** "the number of steps allowed, 1 to 1000", for each of the two runs. */
    private static void stepsAllowed() {
        Worldage x = new Worldage();
        int a = x.node('a', 0, 0, 0);
        int sum = a;
        for (int depth = 0; depth < 9; depth++) {
            sum = x.node('+', sum, sum, 0);
        }
        x.define(x.prepare(0, 1, -1, sum));
        x.define(x.prepare(1, 1, -1, a));
        for (int steps : new int[] {1, 2, 999, 1000}) {
            CHECK.due("too few of " + steps, true, x.isSame(0, 3, NO, steps));
            CHECK.due("enough with " + steps, true, x.isSame(1, 3, NO, steps));
            CHECK.due("the least int", true, x.isSame(1, NO, NO, steps));
            CHECK.due("no method for two", true, x.isSame(1, NO, 0, steps));
        }
        CHECK.due("codes", 3, x.codes());
        CHECK.due("no steps of these", 0, x.allSteps());
        CHECK.due("nor of the last run", 0, x.steps());
    }

    /**
     * "With code or without, each call does what choosing by its age does", also if the rounds did not end: what they
     * found for a call till then is less than what it can have.
     */
    private static void roundsNotEnded() {
        Worldage x = new Worldage();
        int early = x.named(0, false);
        int[] kinds = new int[5];
        int a = x.node('a', 0, 0, 0);
        int one = x.node('n', 1, 0, 0);
        for (int i = 0; i < 5; i++) {
            kinds[i] = x.named(i < 4 ? early : 0, true);
        }
        for (int i = 0; i < 5; i++) {
            x.define(x.prepare(1, kinds[i], -1, x.node('o', kinds[Math.min(i + 1, 4)], one, 0)));
        }
        int before = x.node('c', 0, x.node('-', a, one, 0), -1);
        int next = x.node('c', 1, before, -1);
        x.define(x.prepare(0, 1, -1, x.node('?', a, next, x.node('o', kinds[0], one, 0))));
        x.define(x.prepare(3, early, -1, one));
        x.define(x.prepare(3, kinds[4], -1, x.node('n', 2, 0, 0)));
        x.define(x.prepare(2, 1, -1, x.node('c', 3, x.node('c', 0, a, -1), -1)));
        for (int steps = 0; steps < 7; steps++) {
            CHECK.due("after " + steps + " steps", true, x.isSame(2, steps, NO, 1000));
            CHECK.due("run", 'v', x.run(2, steps, NO, 1000, true));
            CHECK.due("which it is after " + steps, steps < 4 ? 1 : 2, x.result());
        }
        CHECK.due("the call of function 0 alone", 1, x.fixed(0));
    }
}
