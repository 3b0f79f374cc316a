import java.util.NoSuchElementException;

/** The document's terms, "Values" and "Methods": each sentence that names a limit or an edge, and both sides of it. */
public final class MethodTermsTest {
    private static final Check CHECK = new Check();
    private static final int NO = Integer.MIN_VALUE;

    public static void main(String[] args) {
        valuesOfDepth();
        valuesOfOneInt();
        valuesOfUnions();
        valuesOfBoxes();
        sixFunctions();
        fortyMethods();
        oneOrTwoParameters();
        ages();
        fromThisAgeOn();
        sameTypes();
        definedAgain();
        asManyParameters();
        belowEachOther();
        severalAlike();
        twoPlaces();
        twoPlacesRun();
        chosenLikeRuns();
        unclearPairs();
        CHECK.end();
    }

    /** "The type of .. a box 'b' of the type of what is in it; none is deeper than 4, error 't' otherwise." */
    private static void valuesOfDepth() {
        for (int way = 0; way < 4; way++) {
            Worldage x = new Worldage();
            boolean isByCode = way % 2 == 1;
            int dog = x.named(0, true);
            int node = x.node('a', 0, 0, 0);
            int type = 1;
            if (way >= 2) {
                node = x.node('o', dog, node, 0);
                type = dog;
            }
            for (int depth = 0; depth <= 5; depth++) {
                int method = x.prepare(0, 1, -1, node);
                x.define(method);
                CHECK.due(depth + " boxes", depth <= 4 ? 'v' : 'e', x.run(0, 7, NO, 99, isByCode));
                CHECK.due("steps", depth + way / 2 + 1, x.steps());
                if (depth <= 4) {
                    CHECK.due("type", type, x.resultType());
                    CHECK.due("int", 7, x.result());
                } else {
                    CHECK.throwing("no type", NoSuchElementException.class, x::resultType);
                }
                type = depth < 4 ? x.box(type) : type;
                node = x.node('x', node, 0, 0);
                x.takeAway(method);
            }
        }
    }

    /** "or t is the type of one int, and it is this int". */
    private static void valuesOfOneInt() {
        int[] ints = {0, 1, -1, Integer.MAX_VALUE, Integer.MIN_VALUE};
        for (int of : ints) {
            Worldage x = new Worldage();
            x.define(x.prepare(0, x.ofInt(of), -1, x.node('a', 0, 0, 0)));
            x.define(x.prepare(1, 1, x.ofInt(of), x.node('a', 1, 0, 0)));
            for (int n : ints) {
                CHECK.due(n + " is of " + of, n == of ? 'v' : 'n', x.run(0, n, NO, 9, false));
                CHECK.due(n + " is of " + of + ", by code", n == of ? 'v' : 'n', x.run(0, n, NO, 9, true));
                if (n != NO) {
                    CHECK.due(n + " is of " + of + ", second", n == of ? 'v' : 'n', x.run(1, 3, n, 9, false));
                }
            }
        }
        Worldage x = new Worldage();
        int dog = x.named(0, true);
        int a = x.node('a', 0, 0, 0);
        x.define(x.prepare(0, x.ofInt(5), -1, a));
        x.define(x.prepare(1, 1, -1, x.node('c', 0, x.node('o', dog, a, 0), -1)));
        x.define(x.prepare(2, 1, -1, x.node('c', 0, x.node('x', a, 0, 0), -1)));
        CHECK.due("an object with this int is none", 'n', x.run(1, 5, NO, 9, false));
        CHECK.due("nor is a box with it", 'n', x.run(2, 5, NO, 9, false));
    }

    /** "or t is a union, and it is of one of both". */
    private static void valuesOfUnions() {
        Worldage x = new Worldage();
        int dog = x.named(0, true);
        int cat = x.named(0, true);
        int a = x.node('a', 0, 0, 0);
        int five = x.ofInt(5);
        int six = x.ofInt(6);
        x.define(x.prepare(1, 1, -1, x.node('c', 0, x.node('o', dog, a, 0), -1)));
        x.define(x.prepare(2, 1, -1, x.node('c', 0, x.node('x', a, 0, 0), -1)));
        int pair = x.union(five, dog);
        int[] unions = {pair, x.union(dog, five), x.union(cat, pair), x.union(pair, cat), x.union(five, six),
            x.union(2, pair), x.union(x.union(cat, six), pair), x.union(2, 2), x.union(1, cat)};
        boolean[] hasSix = {false, false, false, false, true, false, true, false, true};
        boolean[] hasFive = {true, true, true, true, true, true, true, false, true};
        boolean[] hasDog = {true, true, true, true, false, true, true, false, false};
        for (int i = 0; i < unions.length; i++) {
            int method = x.prepare(0, unions[i], -1, a);
            x.define(method);
            CHECK.due("5 is of union " + i, hasFive[i] ? 'v' : 'n', x.run(0, 5, NO, 9, false));
            CHECK.due("6 is of union " + i, hasSix[i] ? 'v' : 'n', x.run(0, 6, NO, 9, false));
            CHECK.due("a dog is of union " + i, hasDog[i] ? 'v' : 'n', x.run(1, 5, NO, 9, false));
            CHECK.due("a box is of union " + i, 'n', x.run(2, 5, NO, 9, false));
            x.takeAway(method);
        }
    }

    /** A box with an int is of the type 'b' of 1, not of that of one int, whatever it holds. */
    private static void valuesOfBoxes() {
        Worldage x = new Worldage();
        int dog = x.named(0, true);
        int a = x.node('a', 0, 0, 0);
        int five = x.ofInt(5);
        x.define(x.prepare(1, 1, -1, x.node('c', 0, x.node('x', a, 0, 0), -1)));
        int[] are = {0, x.box(1), x.boxBelow(1), x.boxBelow(0), x.box(x.union(1, five)), x.union(dog, x.box(1)),
            x.boxBelow(x.union(five, 1))};
        int[] areNot = {1, 2, five, x.box(five), x.boxBelow(five), x.boxBelow(x.union(five, dog)), x.box(0), x.box(dog),
            x.box(x.union(1, dog)), x.union(x.box(five), five), x.boxBelow(2)};
        for (int type : are) {
            int method = x.prepare(0, type, -1, a);
            x.define(method);
            CHECK.due("a box with 5 is of " + type, 'v', x.run(1, 5, NO, 9, false));
            x.takeAway(method);
        }
        for (int type : areNot) {
            int method = x.prepare(0, type, -1, a);
            x.define(method);
            CHECK.due("a box with 5 is not of " + type, 'n', x.run(1, 5, NO, 9, false));
            x.takeAway(method);
        }
    }

    /** "There are the functions 0 to 5." */
    private static void sixFunctions() {
        Worldage x = new Worldage();
        int[] bodies = new int[6];
        for (int function = 0; function < 6; function++) {
            bodies[function] = x.node('n', 10 + function, 0, 0);
            x.define(x.prepare(function, 1, -1, bodies[function]));
        }
        for (int function = 0; function < 6; function++) {
            CHECK.due("function " + function, 'v', x.run(function, 1, NO, 1, true));
            CHECK.due("its own method", 10 + function, x.result());
        }
        for (int function : new int[] {-1, 6, Integer.MAX_VALUE, Integer.MIN_VALUE}) {
            CHECK.throwing("function", IllegalArgumentException.class, () -> x.prepare(function, 1, -1, 0));
            CHECK.throwing("function", IllegalArgumentException.class, () -> x.run(function, 1, NO, 1, true));
            CHECK.throwing("function", IllegalArgumentException.class, () -> x.node('c', function, 0, -1));
        }
    }

    /** "At most 40 methods are prepared, numbered from 0", whatever functions they are of, there or not. */
    private static void fortyMethods() {
        for (int way = 0; way < 2; way++) {
            Worldage x = new Worldage();
            x.node('n', 7, 0, 0);
            for (int i = 0; i < 40; i++) {
                CHECK.due("method", i, x.prepare(way == 0 ? i % 6 : 3, i % 3, i % 2 == 0 ? -1 : 1, 0));
                if (way == 0) {
                    x.define(i);
                    x.takeAway(i);
                }
            }
            CHECK.throwing("the 41st", IllegalStateException.class, () -> x.prepare(0, 1, -1, 0));
            CHECK.throwing("there is no method 40", NoSuchElementException.class, () -> x.define(40));
            CHECK.due("the last one", way == 0 ? 81 : 1, x.define(39));
        }
    }

    /** "has one or two parameters, each with a type": -1 is none, 0 is the type of all. */
    private static void oneOrTwoParameters() {
        Worldage x = new Worldage();
        int a = x.node('a', 0, 0, 0);
        x.define(x.prepare(0, 0, -1, a));
        x.define(x.prepare(1, 0, 0, a));
        CHECK.due("one for one", 'v', x.run(0, 1, NO, 9, false));
        CHECK.due("one for two", 'n', x.run(0, 1, 0, 9, false));
        CHECK.due("two for one", 'n', x.run(1, 1, NO, 9, false));
        CHECK.due("two for two", 'v', x.run(1, 1, 0, 9, false));
        CHECK.due("two for two, next to none", 'v', x.run(1, 1, NO + 1, 9, false));
    }

    /**
     * "The age is 0 at first. To define a method makes the age 1 greater"; "To take one that is there away does
     * likewise."
     */
    private static void ages() {
        Worldage x = new Worldage();
        x.node('n', 7, 0, 0);
        CHECK.due("at first", 0, x.age());
        x.prepare(0, 1, -1, 0);
        CHECK.due("prepared", 0, x.age());
        CHECK.due("not there at 0", false, x.isThere(0, 0));
        CHECK.due("define", 1, x.define(0));
        CHECK.due("age", 1, x.age());
        CHECK.throwing("define again", IllegalStateException.class, () -> x.define(0));
        CHECK.due("age", 1, x.age());
        CHECK.due("take away", 2, x.takeAway(0));
        CHECK.due("age", 2, x.age());
        CHECK.throwing("take away again", IllegalStateException.class, () -> x.takeAway(0));
        CHECK.due("age", 2, x.age());
    }

    /** "the method is there from this age on", and gone from the age on at which it is taken away. */
    private static void fromThisAgeOn() {
        Worldage x = new Worldage();
        x.node('n', 7, 0, 0);
        x.prepare(0, 1, -1, 0);
        x.prepare(1, 1, -1, 0);
        x.define(1);
        x.define(0);
        x.takeAway(1);
        x.takeAway(0);
        boolean[] zero = {false, false, true, true, false};
        boolean[] one = {false, true, true, false, false};
        for (int age = 0; age <= 4; age++) {
            CHECK.due("0 at " + age, zero[age], x.isThere(0, age));
            CHECK.due("1 at " + age, one[age], x.isThere(1, age));
            CHECK.due("0 chosen at " + age, zero[age] ? 0 : -1, x.chosen(0, 1, -1, age));
            CHECK.due("1 chosen at " + age, one[age] ? 1 : -1, x.chosen(1, 1, -1, age));
        }
    }

    /** "another one of the same function that is there with the same types is there no more from it on". */
    private static void sameTypes() {
        Worldage x = new Worldage();
        x.node('n', 7, 0, 0);
        int dog = x.named(0, true);
        int[][] kinds = {{0, 1, -1}, {1, 1, -1}, {0, dog, -1}, {0, 1, 1}, {0, 1, dog}, {0, 0, -1}, {0, 1, 0},
            {0, x.union(1, dog), -1}, {0, x.union(dog, 1), -1}};
        for (int[] kind : kinds) {
            x.define(x.prepare(kind[0], kind[1], kind[2], 0));
        }
        CHECK.due("none of them goes", 9, x.age());
        for (int method = 0; method < 9; method++) {
            CHECK.due(method + " is there", true, x.isThere(method, 9));
        }
        for (int again = 0; again < 9; again++) {
            int method = x.prepare(kinds[again][0], kinds[again][1], kinds[again][2], 0);
            int age = x.define(method);
            CHECK.due("one age for both", 10 + again, age);
            for (int other = 0; other < 9; other++) {
                CHECK.due(other + " at " + age, other > again, x.isThere(other, age));
                CHECK.due(other + " before", other >= again, x.isThere(other, age - 1));
            }
            CHECK.throwing("it is gone", IllegalStateException.class, () -> x.takeAway(method - 9));
        }
    }

    /** "A method can be defined again." */
    private static void definedAgain() {
        Worldage x = new Worldage();
        x.node('n', 7, 0, 0);
        x.node('n', 8, 0, 0);
        x.prepare(0, 1, -1, 0);
        x.prepare(0, 1, -1, 1);
        for (int i = 0; i < 5; i++) {
            x.define(0);
            CHECK.due("run", 'v', x.run(0, 1, NO, 9, i % 2 == 0));
            CHECK.due("the first", 7, x.result());
            x.define(1);
            CHECK.due("run", 'v', x.run(0, 1, NO, 9, i % 2 == 0));
            CHECK.due("the second", 8, x.result());
            x.takeAway(1);
            CHECK.due("run", 'n', x.run(0, 1, NO, 9, i % 2 == 0));
        }
        CHECK.due("age", 15, x.age());
    }

    /** "have as many parameters as there are arguments": others neither match nor make it unclear. */
    private static void asManyParameters() {
        Worldage x = new Worldage();
        int a = x.node('a', 0, 0, 0);
        int b = x.node('a', 1, 0, 0);
        x.define(x.prepare(0, 1, -1, a));
        x.define(x.prepare(0, x.ofInt(4), x.ofInt(5), b));
        CHECK.due("one", 'v', x.run(0, 4, NO, 9, false));
        CHECK.due("4", 4, x.result());
        CHECK.due("two", 'v', x.run(0, 4, 5, 9, false));
        CHECK.due("5", 5, x.result());
        CHECK.due("two others", 'n', x.run(0, 4, 4, 9, false));
        CHECK.due("two others", 'n', x.run(0, 5, 5, 9, false));
    }

    /** "That one is chosen whose types are below those of each other one that matches". */
    private static void belowEachOther() {
        Worldage x = new Worldage();
        int animal = x.named(0, false);
        int pet = x.named(animal, false);
        int dog = x.named(pet, true);
        int fish = x.named(animal, true);
        x.node('n', 1, 0, 0);
        int other = x.union(dog, fish);
        int[] types = {pet, 0, animal, dog, other};
        for (int type : types) {
            x.define(x.prepare(0, type, -1, 0));
        }
        int[] dogs = {-1, 0, 0, 0, 3, 3};
        int[] fishes = {-1, -1, 1, 2, 2, 4};
        for (int age = 0; age <= 5; age++) {
            CHECK.due("dog at " + age, dogs[age], x.chosen(0, dog, -1, age));
            CHECK.due("fish at " + age, fishes[age], x.chosen(0, fish, -1, age));
            CHECK.due("int at " + age, age < 2 ? -1 : 1, x.chosen(0, 1, -1, age));
        }
        x.takeAway(3);
        CHECK.due("a pet, or a dog or fish", -2, x.chosen(0, dog, -1, 6));
        CHECK.due("no pet", 4, x.chosen(0, fish, -1, 6));
    }

    /** "error 'n' if none matches, 'a' if there is no such one, or several". */
    private static void severalAlike() {
        for (int way = 0; way < 2; way++) {
            Worldage x = new Worldage();
            int five = x.ofInt(5);
            int six = x.ofInt(6);
            int dog = x.named(0, true);
            int a = x.node('a', 0, 0, 0);
            CHECK.due("no method at all", 'n', x.run(0, 5, NO, 9, way == 1));
            x.define(x.prepare(0, x.union(five, dog), -1, a));
            CHECK.due("none matches", 'n', x.run(0, 6, NO, 9, way == 1));
            CHECK.due("one", 'v', x.run(0, 5, NO, 9, way == 1));
            x.define(x.prepare(0, x.union(dog, five), -1, a));
            CHECK.due("several, each below the other", 'a', x.run(0, 5, NO, 9, way == 1));
            x.define(x.prepare(0, x.union(five, six), -1, a));
            CHECK.due("none below all others", 'a', x.run(0, 5, NO, 9, way == 1));
            CHECK.due("one of them", 'v', x.run(0, 6, NO, 9, way == 1));
            x.define(x.prepare(0, five, -1, a));
            CHECK.due("one below all", 'v', x.run(0, 5, NO, 9, way == 1));
            x.takeAway(3);
            x.takeAway(1);
            CHECK.due("two, neither below the other", 'a', x.run(0, 5, NO, 9, way == 1));
        }
    }

    /** "each below the one at its place". */
    private static void twoPlaces() {
        Worldage x = new Worldage();
        int animal = x.named(0, false);
        int dog = x.named(animal, true);
        x.node('n', 1, 0, 0);
        int[][] pairs = {{0, 0}, {animal, 0}, {0, animal}, {animal, animal}, {dog, animal}, {animal, dog}, {dog, dog}};
        int[] due = {-1, 0, 1, -2, 3, 4, -2, 6};
        for (int i = 0; i < pairs.length; i++) {
            x.define(x.prepare(0, pairs[i][0], pairs[i][1], 0));
        }
        for (int age = 0; age <= 7; age++) {
            CHECK.due("two dogs at " + age, due[age], x.chosen(0, dog, dog, age));
        }
        CHECK.due("a dog and an int", 1, x.chosen(0, dog, 1, 7));
        CHECK.due("an int and a dog", 2, x.chosen(0, 1, dog, 7));
        CHECK.due("two ints", 0, x.chosen(0, 1, 1, 7));
        CHECK.due("a dog alone", -1, x.chosen(0, dog, -1, 7));
    }

    /** The same when it is run: the method 3 is for two dogs, 1 for a dog behind an int, 2 for a dog ahead of it. */
    private static void twoPlacesRun() {
        for (int way = 0; way < 2; way++) {
            Worldage x = new Worldage();
            int dog = x.named(0, true);
            int a = x.node('a', 0, 0, 0);
            int object = x.node('o', dog, a, 0);
            int[][] kinds = {{1, 1}, {1, dog}, {dog, 1}, {dog, dog}};
            int[] arguments = {a, object};
            for (int i = 0; i < 4; i++) {
                x.define(x.prepare(0, kinds[i][0], kinds[i][1], x.node('n', i, 0, 0)));
                x.define(x.prepare(1 + i, 1, -1, x.node('c', 0, arguments[i / 2], arguments[i % 2])));
            }
            for (int i = 0; i < 4; i++) {
                CHECK.due("function " + (1 + i), 'v', x.run(1 + i, 5, NO, 9, way == 1));
                CHECK.due("its method", i, x.result());
            }
            x.takeAway(2);
            x.takeAway(4);
            int[] due = {'v', 'n', 'n', 'v'};
            for (int i = 0; i < 4; i++) {
                CHECK.due("function " + (1 + i), due[i], x.run(1 + i, 5, NO, 9, way == 1));
            }
        }
    }

    /** Promise 16: "types of one int count as not being theirs", at either place, also in unions. */
    private static void chosenLikeRuns() {
        Worldage x = new Worldage();
        int dog = x.named(0, true);
        int five = x.ofInt(5);
        x.node('n', 1, 0, 0);
        x.define(x.prepare(0, five, -1, 0));
        x.define(x.prepare(0, x.union(five, dog), -1, 0));
        x.define(x.prepare(1, 1, five, 0));
        CHECK.due("no int alone", -1, x.chosen(0, 1, -1, 3));
        CHECK.due("a part of a union", 1, x.chosen(0, dog, -1, 3));
        CHECK.due("the second one", -1, x.chosen(1, 1, 1, 3));
        x.define(x.prepare(0, x.union(five, 1), -1, 0));
        CHECK.due("a union with all ints", 3, x.chosen(0, 1, -1, 4));
        int deep = x.box(x.box(x.box(x.box(dog))));
        CHECK.due("4 deep, not taken", -1, x.chosen(0, deep, -1, 4));
        x.define(x.prepare(0, 0, -1, 0));
        CHECK.due("4 deep", 4, x.chosen(0, deep, -1, 5));
        CHECK.due("at the age before", -1, x.chosen(0, deep, -1, 4));
    }

    /** Promise 17: "that meet at each place, have as many parameters, and of which neither is below the other". */
    private static void unclearPairs() {
        Worldage x = new Worldage();
        int dog = x.named(0, true);
        int cat = x.named(0, true);
        x.node('n', 1, 0, 0);
        int[][] kinds = {{0, dog, 0}, {0, 0, dog}, {0, dog, -1}, {1, 0, dog}, {0, cat, 1}, {0, dog, dog},
            {0, x.boxBelow(dog), dog}, {0, x.boxBelow(cat), 0}};
        int[] due = {0, 1, 1, 1, 1, 1, 1, 3};
        for (int i = 0; i < kinds.length; i++) {
            x.define(x.prepare(kinds[i][0], kinds[i][1], kinds[i][2], 0));
            CHECK.due("pairs with " + (i + 1), due[i], x.unclear(0));
        }
        CHECK.due("of function 1", 0, x.unclear(1));
        x.takeAway(0);
        CHECK.due("one less", 2, x.unclear(0));
        x.takeAway(1);
        CHECK.due("two boxes that meet", 1, x.unclear(0));
        x.takeAway(7);
        CHECK.due("none", 0, x.unclear(0));
    }
}
