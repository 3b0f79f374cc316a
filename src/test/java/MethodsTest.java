import java.util.NoSuchElementException;

/** Promises 11 to 17: prepare, define, takeAway, age, isThere, chosen, unclear. */
public final class MethodsTest {
    private static final Check CHECK = new Check();
    private static final int NO = Integer.MIN_VALUE;

    public static void main(String[] args) {
        prepare();
        fortyMethods();
        ages();
        replaced();
        chosen();
        chosenByTwo();
        chosenRefused();
        unclear();
        CHECK.end();
    }

    private static void prepare() {
        Worldage x = new Worldage();
        x.node('n', 7, 0, 0);
        CHECK.due("prepare", 0, x.prepare(5, 1, -1, 0));
        CHECK.due("prepare the same", 1, x.prepare(5, 1, -1, 0));
        CHECK.due("prepare with two", 2, x.prepare(0, 0, 2, 0));
        CHECK.throwing("function 6", IllegalArgumentException.class, () -> x.prepare(6, 9, 9, 9));
        CHECK.throwing("function -1", IllegalArgumentException.class, () -> x.prepare(-1, 1, -1, 0));
        CHECK.throwing("no first type", NoSuchElementException.class, () -> x.prepare(0, 3, -1, 0));
        CHECK.throwing("first -1", NoSuchElementException.class, () -> x.prepare(0, -1, -1, 0));
        CHECK.throwing("no second type", NoSuchElementException.class, () -> x.prepare(0, 1, 3, 0));
        CHECK.throwing("second -2", NoSuchElementException.class, () -> x.prepare(0, 1, -2, 0));
        CHECK.throwing("no body", NoSuchElementException.class, () -> x.prepare(0, 1, -1, 1));
        CHECK.throwing("body -1", NoSuchElementException.class, () -> x.prepare(0, 1, -1, -1));
        CHECK.due("age", 0, x.age());
        CHECK.due("run without a definition", 'n', x.run(5, 1, NO, 9, false));
        CHECK.due("next", 3, x.prepare(0, 1, -1, 0));
    }

    private static void fortyMethods() {
        Worldage x = new Worldage();
        x.node('n', 7, 0, 0);
        for (int i = 0; i < 40; i++) {
            CHECK.due("prepare", i, x.prepare(i % 6, 1, -1, 0));
        }
        CHECK.throwing("41st", IllegalStateException.class, () -> x.prepare(0, 1, -1, 0));
        CHECK.throwing("no such body is told first", NoSuchElementException.class, () -> x.prepare(0, 1, -1, 5));
        CHECK.due("define the last", 1, x.define(39));
        CHECK.due("run it", 'v', x.run(3, 1, NO, 9, false));
    }

    private static void ages() {
        Worldage x = new Worldage();
        x.node('n', 7, 0, 0);
        x.prepare(0, 1, -1, 0);
        x.prepare(0, 0, -1, 0);
        CHECK.throwing("take away what is not there", IllegalStateException.class, () -> x.takeAway(0));
        CHECK.due("define", 1, x.define(0));
        CHECK.throwing("define again", IllegalStateException.class, () -> x.define(0));
        CHECK.due("define another", 2, x.define(1));
        CHECK.due("take away", 3, x.takeAway(0));
        CHECK.throwing("take away again", IllegalStateException.class, () -> x.takeAway(0));
        CHECK.due("define once more", 4, x.define(0));
        CHECK.due("age", 4, x.age());
        boolean[] first = {false, true, true, false, true};
        boolean[] second = {false, false, true, true, true};
        for (int age = 0; age <= 4; age++) {
            CHECK.due("first at " + age, first[age], x.isThere(0, age));
            CHECK.due("second at " + age, second[age], x.isThere(1, age));
        }
        CHECK.throwing("age 5", IllegalArgumentException.class, () -> x.isThere(0, 5));
        CHECK.throwing("age -1", IllegalArgumentException.class, () -> x.isThere(0, -1));
        CHECK.throwing("method is told first", NoSuchElementException.class, () -> x.isThere(2, 5));
        CHECK.throwing("define -1", NoSuchElementException.class, () -> x.define(-1));
        CHECK.throwing("define 2", NoSuchElementException.class, () -> x.define(2));
        CHECK.throwing("take away 2", NoSuchElementException.class, () -> x.takeAway(2));
        CHECK.due("age", 4, x.age());
        for (int age = 5; age < 200; age++) {
            CHECK.due("many ages", age, age % 2 == 1 ? x.takeAway(0) : x.define(0));
        }
        CHECK.due("long ago", true, x.isThere(0, 1));
        CHECK.due("not long ago", false, x.isThere(0, 199));
    }

    private static void replaced() {
        Worldage x = new Worldage();
        x.node('n', 1, 0, 0);
        x.node('n', 2, 0, 0);
        x.prepare(0, 1, -1, 0);
        x.prepare(0, 1, -1, 1);
        x.prepare(0, 1, 1, 0);
        x.prepare(1, 1, -1, 0);
        x.define(0);
        x.define(2);
        x.define(3);
        CHECK.due("the same types", 4, x.define(1));
        CHECK.due("replaced", false, x.isThere(0, 4));
        CHECK.due("there before", true, x.isThere(0, 3));
        CHECK.due("with two is another", true, x.isThere(2, 4));
        CHECK.due("of another function too", true, x.isThere(3, 4));
        CHECK.due("run", 'v', x.run(0, 5, NO, 9, false));
        CHECK.due("the new one", 2, x.result());
        CHECK.due("back", 5, x.define(0));
        CHECK.due("which replaces it", false, x.isThere(1, 5));
    }

    private static void chosen() {
        Worldage x = new Worldage();
        int animal = x.named(0, false);
        int dog = x.named(animal, true);
        int cat = x.named(animal, true);
        int one = x.ofInt(1);
        int boxDog = x.box(dog);
        int belowAnimal = x.boxBelow(animal);
        x.node('n', 1, 0, 0);
        x.prepare(0, animal, -1, 0);
        x.prepare(0, dog, -1, 0);
        x.prepare(0, one, -1, 0);
        x.prepare(0, belowAnimal, -1, 0);
        x.prepare(0, x.union(dog, 1), -1, 0);
        x.prepare(0, x.union(1, dog), -1, 0);
        for (int i = 0; i < 4; i++) {
            x.define(i);
        }
        CHECK.due("dog", 1, x.chosen(0, dog, -1, 4));
        CHECK.due("dog ahead of its method", 0, x.chosen(0, dog, -1, 1));
        CHECK.due("cat", 0, x.chosen(0, cat, -1, 4));
        CHECK.due("a type of one int has not all ints", -1, x.chosen(0, 1, -1, 4));
        CHECK.due("box", 3, x.chosen(0, boxDog, -1, 4));
        CHECK.due("nothing at first", -1, x.chosen(0, dog, -1, 0));
        CHECK.due("with two", -1, x.chosen(0, dog, dog, 4));
        CHECK.due("of another function", -1, x.chosen(1, dog, -1, 4));
        x.define(4);
        CHECK.due("union", 4, x.chosen(0, 1, -1, 5));
        CHECK.due("below the union", 1, x.chosen(0, dog, -1, 5));
        x.define(5);
        CHECK.due("two that are below each other", -2, x.chosen(0, 1, -1, 6));
        CHECK.due("though not for dogs", 1, x.chosen(0, dog, -1, 6));
        x.takeAway(1);
        CHECK.due("unions and the parent", -2, x.chosen(0, dog, -1, 7));
    }

    private static void chosenByTwo() {
        Worldage x = new Worldage();
        int dog = x.named(0, true);
        x.node('n', 1, 0, 0);
        x.prepare(0, dog, 0, 0);
        x.prepare(0, 0, dog, 0);
        x.prepare(0, dog, dog, 0);
        x.define(0);
        x.define(1);
        CHECK.due("neither is below the other", -2, x.chosen(0, dog, dog, 2));
        CHECK.due("first", 0, x.chosen(0, dog, 1, 2));
        CHECK.due("second", 1, x.chosen(0, 1, dog, 2));
        CHECK.due("none", -1, x.chosen(0, 1, 1, 2));
        x.define(2);
        CHECK.due("both", 2, x.chosen(0, dog, dog, 3));
        CHECK.due("at the age before", -2, x.chosen(0, dog, dog, 2));
    }

    private static void chosenRefused() {
        Worldage x = new Worldage();
        int animal = x.named(0, false);
        int dog = x.named(animal, true);
        int one = x.ofInt(1);
        CHECK.throwing("function", IllegalArgumentException.class, () -> x.chosen(6, 99, -1, 0));
        CHECK.throwing("age 1", IllegalArgumentException.class, () -> x.chosen(0, 99, -1, 1));
        CHECK.throwing("age -1", IllegalArgumentException.class, () -> x.chosen(0, 1, -1, -1));
        CHECK.throwing("no type", NoSuchElementException.class, () -> x.chosen(0, -1, -1, 0));
        CHECK.throwing("no second type", NoSuchElementException.class, () -> x.chosen(0, 0, -2, 0));
        int[] not = {0, 2, animal, one, x.box(animal), x.boxBelow(dog), x.union(1, 1), x.box(one), x.box(0)};
        for (int type : not) {
            CHECK.throwing("not of values: " + type, UnsupportedOperationException.class,
                    () -> x.chosen(0, type, -1, 0));
            CHECK.throwing("second not of values: " + type, UnsupportedOperationException.class,
                    () -> x.chosen(0, 1, type, 0));
        }
        int[] are = {1, dog, x.box(1), x.box(dog), x.box(x.box(dog)), x.box(x.box(x.box(x.box(1))))};
        for (int type : are) {
            CHECK.due("of values: " + type, -1, x.chosen(0, type, type, 0));
        }
    }

    private static void unclear() {
        Worldage x = new Worldage();
        int dog = x.named(0, true);
        int cat = x.named(0, true);
        x.node('n', 1, 0, 0);
        x.prepare(0, dog, 0, 0);
        x.prepare(0, 0, dog, 0);
        x.prepare(0, cat, 1, 0);
        x.prepare(0, dog, dog, 0);
        x.prepare(0, x.union(dog, cat), -1, 0);
        x.prepare(0, x.union(1, dog), -1, 0);
        x.prepare(0, x.union(cat, dog), -1, 0);
        CHECK.due("nothing there", 0, x.unclear(0));
        x.define(0);
        x.define(1);
        CHECK.due("one pair", 1, x.unclear(0));
        x.define(2);
        CHECK.due("ints and dogs do not meet", 1, x.unclear(0));
        x.define(3);
        CHECK.due("one below both", 1, x.unclear(0));
        x.define(4);
        x.define(5);
        CHECK.due("unions that meet", 2, x.unclear(0));
        x.define(6);
        CHECK.due("below each other is clear here", 3, x.unclear(0));
        x.takeAway(0);
        CHECK.due("gone", 2, x.unclear(0));
        CHECK.due("another function", 0, x.unclear(1));
        CHECK.throwing("function 6", IllegalArgumentException.class, () -> x.unclear(6));
        CHECK.throwing("function -1", IllegalArgumentException.class, () -> x.unclear(-1));
    }
}
