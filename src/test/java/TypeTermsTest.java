import java.util.NoSuchElementException;

/** The document's terms, "Types": each sentence that names a limit or an edge, and both sides of it. */
public final class TypeTermsTest {
    private static final Check CHECK = new Check();

    interface Maker {
        int make(Worldage x, int index);
    }

    public static void main(String[] args) {
        sixtyOfEachKind();
        numbersInOrder();
        partsAhead();
        noNumberWithoutAll();
        noNumberForParts();
        threeAtFirst();
        parents();
        sameTypes();
        depthOfOneInt();
        depthOfNamed();
        depthOfBoxes();
        depthOfUnions();
        belowByFirstRules();
        belowByUnions();
        belowOfIntsAndNamed();
        belowOfBoxes();
        meetByFirstRules();
        meetByUnions();
        meetOfBoxes();
        joins();
        joinsTooDeep();
        CHECK.end();
    }

    /** "At most 60 types have numbers from 0": the 60th is made, the next one not, one that is there still returned. */
    private static void sixtyOfEachKind() {
        sixty("named", (x, index) -> x.named(0, index % 2 == 0));
        sixty("ofInt", (x, index) -> x.ofInt(1000 + index));
        sixty("box", (x, index) -> x.box(10 + index));
        sixty("boxBelow", (x, index) -> x.boxBelow(10 + index));
        sixty("union", (x, index) -> x.union(10, 11 + index));
    }

    private static void sixty(String what, Maker maker) {
        Worldage x = new Worldage();
        for (int i = 3; i < 58; i++) {
            CHECK.due("the types in order", i, x.ofInt(i));
        }
        CHECK.due(what + ", the 59th", 58, maker.make(x, 0));
        CHECK.due(what + ", the 60th", 59, maker.make(x, 1));
        CHECK.due(what + ", types", 60, x.types());
        CHECK.throwing(what + ", the 61st", IllegalStateException.class, () -> maker.make(x, 2));
        CHECK.due(what + ", types as before", 60, x.types());
        if (!what.equals("named")) {
            CHECK.due(what + ", one that is there", 58, maker.make(x, 0));
            CHECK.due(what + ", the last one", 59, maker.make(x, 1));
        }
        CHECK.due("an int that is there", 3, x.ofInt(3));
    }

    /** "have numbers from 0, in the order in which calls first return them". */
    private static void numbersInOrder() {
        Worldage x = new Worldage();
        CHECK.due("first", 3, x.ofInt(9));
        CHECK.due("second", 4, x.box(3));
        CHECK.due("again", 3, x.ofInt(9));
        CHECK.due("third", 5, x.named(0, true));
        int a = x.node('a', 0, 0, 0);
        int deep = x.node('x', x.node('x', x.node('n', 8, 0, 0), 0, 0), 0, 0);
        x.define(x.prepare(0, 0, -1, x.node('?', a, deep, a)));
        x.run(0, 1, Integer.MIN_VALUE, 9, true);
        x.trim(0, 1, -1);
        x.isSame(0, 1, Integer.MIN_VALUE, 9);
        CHECK.due("what is only met has none", 6, x.types());
        CHECK.due("so that the next one has it", 6, x.ofInt(8));
    }

    /** "those that they are made of ahead of them", the first part ahead of the second one. */
    private static void partsAhead() {
        Worldage x = new Worldage();
        int dog = x.named(0, true);
        int cat = x.named(0, true);
        int n = x.node('n', 1, 0, 0);
        int boxedDog = x.node('x', x.node('o', dog, n, 0), 0, 0);
        int boxedCat = x.node('x', x.node('x', x.node('o', cat, n, 0), 0, 0), 0, 0);
        x.define(x.prepare(0, 1, -1, x.node('y', boxedDog, boxedCat, 0)));
        CHECK.due("the union is last", 8, x.infer(0, 1, -1));
        CHECK.due("types", 9, x.types());
        CHECK.due("its first part", 5, x.box(dog));
        CHECK.due("what its second part is made of", 6, x.box(cat));
        CHECK.due("its second part", 7, x.box(6));
        CHECK.due("itself", 8, x.union(5, 7));
        Worldage y = new Worldage();
        int three = y.node('x', y.node('x', y.node('x', y.node('n', 1, 0, 0), 0, 0), 0, 0), 0, 0);
        y.define(y.prepare(0, 1, -1, three));
        y.run(0, 1, Integer.MIN_VALUE, 9, false);
        CHECK.due("the outermost box", 5, y.resultType());
        CHECK.due("the innermost one", 3, y.box(1));
        CHECK.due("the one between", 4, y.box(3));
    }

    /** A type for whose parts there are too few numbers gets none, and its parts neither. */
    private static void noNumberWithoutAll() {
        for (int there = 56; there <= 57; there++) {
            Worldage x = new Worldage();
            int dog = x.named(0, true);
            int n = x.node('n', 1, 0, 0);
            int object = x.node('o', dog, n, 0);
            x.define(x.prepare(0, 1, -1, x.node('y', x.node('x', n, 0, 0), x.node('x', object, 0, 0), 0)));
            while (x.types() < there) {
                x.ofInt(x.types());
            }
            if (there == 56) {
                CHECK.due("three are left for two boxes and a union", 58, x.infer(0, 1, -1));
                CHECK.due("types", 59, x.types());
            } else {
                x.ofInt(57);
                CHECK.throwing("two are left", UnsupportedOperationException.class, () -> x.infer(0, 1, -1));
                CHECK.due("types", 58, x.types());
                CHECK.due("the second box has no number", 58, x.box(dog));
                CHECK.throwing("one is left", UnsupportedOperationException.class, () -> x.infer(0, 1, -1));
                CHECK.due("nor has the first one", 59, x.box(1));
                CHECK.throwing("none is left", UnsupportedOperationException.class, () -> x.infer(0, 1, -1));
            }
        }
    }

    /** The same for parts of parts: none of what has been given a number on the way keeps it. */
    private static void noNumberForParts() {
        Worldage x = new Worldage();
        int dog = x.named(0, true);
        int n = x.node('n', 1, 0, 0);
        int two = x.node('x', x.node('x', n, 0, 0), 0, 0);
        int three = x.node('x', two, 0, 0);
        int object = x.node('o', dog, n, 0);
        x.define(x.prepare(0, 1, -1, three));
        x.define(x.prepare(1, 1, -1, x.node('y', object, two, 0)));
        x.define(x.prepare(2, 1, -1, x.node('y', two, object, 0)));
        while (x.types() < 59) {
            x.ofInt(x.types());
        }
        CHECK.due("run", 'v', x.run(0, 1, Integer.MIN_VALUE, 9, false));
        CHECK.throwing("the type of its value", IllegalStateException.class, x::resultType);
        CHECK.due("types", 59, x.types());
        for (int function = 0; function < 3; function++) {
            int each = function;
            CHECK.throwing("function " + each, UnsupportedOperationException.class, () -> x.infer(each, 1, -1));
            CHECK.due("types", 59, x.types());
        }
        CHECK.due("the number is left", 59, x.boxBelow(1));
    }

    /** "The type 0 has all values, 1 has the ints, 2 has none." */
    private static void threeAtFirst() {
        Worldage x = new Worldage();
        int dog = x.named(0, true);
        int five = x.ofInt(5);
        int a = x.node('a', 0, 0, 0);
        int call = x.node('c', 0, a, -1);
        int all = x.prepare(0, 0, -1, a);
        int ints = x.prepare(0, 1, -1, a);
        int none = x.prepare(0, 2, -1, a);
        x.define(x.prepare(1, 1, -1, call));
        x.define(x.prepare(2, 1, -1, x.node('c', 0, x.node('o', dog, a, 0), -1)));
        x.define(x.prepare(3, 1, -1, x.node('c', 0, x.node('x', a, 0, 0), -1)));
        char[][] due = {{'v', 'v', 'v'}, {'v', 'n', 'n'}, {'n', 'n', 'n'}};
        int[] methods = {all, ints, none};
        for (int i = 0; i < 3; i++) {
            x.define(methods[i]);
            for (int function = 1; function <= 3; function++) {
                CHECK.due("type " + i + ", function " + function, due[i][function - 1],
                        x.run(function, 5, Integer.MIN_VALUE, 99, false));
            }
            x.takeAway(methods[i]);
        }
        for (int type = 0; type < x.types(); type++) {
            CHECK.due(type + " is below 0", true, x.isBelow(type, 0));
            CHECK.due("2 is below " + type, true, x.isBelow(2, type));
            CHECK.due("2 meets " + type, false, x.meet(2, type));
        }
        CHECK.due("an int is below 1", true, x.isBelow(five, 1));
    }

    /** "Named types have a parent, 0 or a named type that is not concrete". */
    private static void parents() {
        Worldage x = new Worldage();
        int animal = x.named(0, false);
        int dog = x.named(animal, true);
        int pug = x.named(animal, false);
        CHECK.due("below one that is not concrete", 6, x.named(pug, true));
        int[] wrong = {1, 2, dog, 6, x.ofInt(3), x.box(animal), x.boxBelow(animal), x.union(animal, animal)};
        for (int parent : wrong) {
            CHECK.throwing("parent " + parent, IllegalArgumentException.class, () -> x.named(parent, false));
            CHECK.throwing("parent " + parent, IllegalArgumentException.class, () -> x.named(parent, true));
        }
        CHECK.due("types", 11, x.types());
        int type = 0;
        for (int i = 11; i < 60; i++) {
            type = x.named(type, i == 59);
            CHECK.due("a chain of parents", i, type);
        }
        for (int i = 11; i < 60; i++) {
            CHECK.due("the last one below number " + i, true, x.isBelow(59, i));
            CHECK.due("number " + i + " below the last one", i == 59, x.isBelow(i, 59));
        }
    }

    /** "The same type has the same number; unions are the same of the same two in the same order alone." */
    private static void sameTypes() {
        Worldage x = new Worldage();
        int zero = x.ofInt(0);
        CHECK.due("greatest", 4, x.ofInt(Integer.MAX_VALUE));
        CHECK.due("least", 5, x.ofInt(Integer.MIN_VALUE));
        CHECK.due("-1", 6, x.ofInt(-1));
        CHECK.due("0 again", zero, x.ofInt(0));
        CHECK.due("greatest again", 4, x.ofInt(Integer.MAX_VALUE));
        CHECK.due("least again", 5, x.ofInt(Integer.MIN_VALUE));
        CHECK.due("-1 again", 6, x.ofInt(-1));
        CHECK.due("two named ones with the same parent", 7, x.named(0, true));
        CHECK.due("are not the same", 8, x.named(0, true));
        CHECK.due("box", 9, x.box(7));
        CHECK.due("box below", 10, x.boxBelow(7));
        CHECK.due("box of the other", 11, x.box(8));
        CHECK.due("box again", 9, x.box(7));
        CHECK.due("box below again", 10, x.boxBelow(7));
        CHECK.due("union", 12, x.union(7, 8));
        CHECK.due("turned round", 13, x.union(8, 7));
        CHECK.due("twice the same", 14, x.union(7, 7));
        CHECK.due("again", 12, x.union(7, 8));
        CHECK.due("turned round again", 13, x.union(8, 7));
        CHECK.due("grouped to the left", 15, x.union(12, 1));
        CHECK.due("what it would be made of", 16, x.union(8, 1));
        CHECK.due("grouped to the right", 17, x.union(7, 16));
        CHECK.due("of types below each other", 18, x.union(12, 13));
        CHECK.due("types", 19, x.types());
    }

    /** Makes boxes as long as it can, and tells how many. */
    private static int roomAbove(Worldage x, int type) {
        int boxes = 0;
        int top = type;
        while (boxes < 9) {
            try {
                top = boxes % 2 == 0 ? x.box(top) : x.boxBelow(top);
            } catch (IllegalArgumentException e) {
                int last = top;
                CHECK.throwing("box", IllegalArgumentException.class, () -> x.box(last));
                CHECK.throwing("boxBelow", IllegalArgumentException.class, () -> x.boxBelow(last));
                CHECK.throwing("union, first", IllegalArgumentException.class, () -> x.union(last, 1));
                CHECK.throwing("union, second", IllegalArgumentException.class, () -> x.union(1, last));
                CHECK.throwing("union, both", IllegalArgumentException.class, () -> x.union(last, last));
                return boxes;
            }
            boxes++;
        }
        return boxes;
    }

    /** "The depth of a type is 0, that of 's' 1", "none is deeper than 4". */
    private static void depthOfOneInt() {
        CHECK.due("all values", 4, roomAbove(new Worldage(), 0));
        CHECK.due("the ints", 4, roomAbove(new Worldage(), 1));
        CHECK.due("none", 4, roomAbove(new Worldage(), 2));
        for (int n : new int[] {0, 1, -1, Integer.MAX_VALUE, Integer.MIN_VALUE}) {
            Worldage x = new Worldage();
            CHECK.due("one int", 3, roomAbove(x, x.ofInt(n)));
        }
    }

    private static void depthOfNamed() {
        Worldage x = new Worldage();
        int type = 0;
        for (int i = 0; i < 8; i++) {
            type = x.named(type, false);
        }
        CHECK.due("one with eight above it", 4, roomAbove(x, type));
        CHECK.due("a concrete one", 4, roomAbove(x, x.named(type, true)));
    }

    private static void depthOfBoxes() {
        Worldage x = new Worldage();
        int box = x.box(0);
        CHECK.due("box", 3, roomAbove(x, box));
        CHECK.due("box below", 3, roomAbove(x, x.boxBelow(0)));
        CHECK.due("two boxes", 2, roomAbove(x, x.box(box)));
        CHECK.due("two boxes below", 2, roomAbove(x, x.boxBelow(box)));
        CHECK.due("three boxes", 1, roomAbove(x, x.box(x.box(box))));
        CHECK.due("four boxes", 0, roomAbove(x, x.boxBelow(x.box(x.box(box)))));
    }

    /** "1 more than their greatest depth": that of either part. */
    private static void depthOfUnions() {
        Worldage x = new Worldage();
        int one = x.ofInt(1);
        int box = x.box(1);
        int two = x.box(box);
        CHECK.due("of 0 deep ones", 3, roomAbove(x, x.union(1, 0)));
        CHECK.due("first 1 deep", 2, roomAbove(x, x.union(one, 1)));
        CHECK.due("second 1 deep", 2, roomAbove(x, x.union(1, one)));
        CHECK.due("both 1 deep", 2, roomAbove(x, x.union(one, box)));
        Worldage y = new Worldage();
        int second = y.box(y.box(1));
        int third = y.box(second);
        CHECK.due("first 2 deep", 1, roomAbove(y, y.union(second, 1)));
        CHECK.due("second 2 deep", 1, roomAbove(y, y.union(1, second)));
        CHECK.due("first 3 deep", 0, roomAbove(y, y.union(third, 1)));
        CHECK.due("second 3 deep", 0, roomAbove(y, y.union(1, third)));
        CHECK.due("second 3 deep, first 1", 0, roomAbove(y, y.union(y.ofInt(4), third)));
        CHECK.due("first 3 deep, second 2", 0, roomAbove(y, y.union(third, second)));
        int union = x.union(1, 2);
        CHECK.due("unions of unions", 2, roomAbove(x, x.union(union, union)));
        CHECK.due("the two boxes are as deep as before", 2, roomAbove(x, two));
    }

    private static void below(Worldage x, boolean due, int... pairs) {
        for (int i = 0; i < pairs.length; i += 2) {
            CHECK.due(pairs[i] + " below " + pairs[i + 1], due, x.isBelow(pairs[i], pairs[i + 1]));
        }
    }

    /** "yes, if they are the same, s is 2, or t is 0". */
    private static void belowByFirstRules() {
        Worldage x = new Worldage();
        int dog = x.named(0, true);
        int five = x.ofInt(5);
        int[] types = {0, 1, 2, dog, five, x.box(dog), x.boxBelow(dog), x.union(1, dog), x.box(2), x.boxBelow(0)};
        for (int type : types) {
            below(x, true, type, type, 2, type, type, 0);
            below(x, type == 2, type, 2);
            below(x, type == 0, 0, type);
        }
    }

    /** "if s is a union, if both parts are below t; if t is a union, if s is below one of both". */
    private static void belowByUnions() {
        Worldage x = new Worldage();
        int dog = x.named(0, true);
        int cat = x.named(0, true);
        int either = x.union(dog, cat);
        int turned = x.union(cat, dog);
        below(x, true, either, turned, turned, either, dog, either, cat, either, dog, turned, cat, turned);
        below(x, false, either, dog, either, cat, 1, either, either, x.union(dog, 1), either, x.union(1, cat));
        below(x, true, either, x.union(1, turned), x.union(either, either), turned);
        below(x, true, 0, x.union(1, 0), 0, x.union(0, 1), x.union(0, 1), x.union(1, 0));
        below(x, false, 0, either, 0, x.union(1, 1));
        int nothing = x.union(2, 2);
        below(x, true, nothing, 2, nothing, dog, nothing, 1, 2, nothing, x.union(2, dog), dog, dog, x.union(2, dog));
        below(x, false, 1, nothing, dog, nothing, x.union(2, dog), 2, x.union(dog, 2), cat);
    }

    /** "if s is a type of one int, if t is 1; if s is named, if t is its parent, or one above that". */
    private static void belowOfIntsAndNamed() {
        Worldage x = new Worldage();
        int five = x.ofInt(5);
        int animal = x.named(0, false);
        int pet = x.named(animal, false);
        int dog = x.named(pet, true);
        int cat = x.named(pet, true);
        int fish = x.named(animal, true);
        below(x, true, five, 1, pet, animal, dog, pet, dog, animal, fish, animal);
        below(x, false, 1, five, five, x.ofInt(6), five, x.ofInt(-5), five, dog, five, animal, five, x.box(1), dog, 1);
        below(x, false, dog, cat, cat, dog, pet, dog, animal, dog, animal, pet, fish, pet, dog, fish, 1, animal);
        below(x, false, 1, x.union(five, five), five, x.box(five), dog, x.box(dog), dog, x.boxBelow(dog));
    }

    /** "if s is 'b' and t is 'b' .. both ways; if s is 'b' or 'o' and t is 'o' ..; otherwise no". */
    private static void belowOfBoxes() {
        Worldage x = new Worldage();
        int five = x.ofInt(5);
        int animal = x.named(0, false);
        int dog = x.named(animal, true);
        int justInt = x.box(1);
        int likeInt = x.box(x.union(1, five));
        int turned = x.box(x.union(five, 1));
        below(x, true, justInt, likeInt, likeInt, justInt, likeInt, turned, turned, likeInt);
        below(x, false, justInt, x.box(five), x.box(five), justInt);
        below(x, false, x.box(dog), x.box(animal), x.box(animal), x.box(dog));
        below(x, false, x.box(2), justInt, justInt, x.box(2), x.box(0), justInt, justInt, x.box(0));
        int belowAnimal = x.boxBelow(animal);
        int belowDog = x.boxBelow(dog);
        below(x, true, x.box(dog), belowAnimal, x.box(animal), belowAnimal, belowDog, belowAnimal, x.box(2), belowDog);
        below(x, true, x.boxBelow(2), belowDog, x.box(0), x.boxBelow(0), belowAnimal, x.boxBelow(0));
        below(x, false, belowAnimal, belowDog, belowDog, x.box(dog), x.box(animal), belowDog, x.box(0), belowAnimal);
        below(x, false, belowDog, dog, x.box(dog), dog, justInt, 1, x.boxBelow(1), 1, 1, justInt, 1, x.boxBelow(0));
        int boxes = x.box(x.boxBelow(dog));
        below(x, true, boxes, x.boxBelow(belowAnimal), x.box(x.box(dog)), x.boxBelow(belowAnimal));
        below(x, false, boxes, x.box(belowAnimal), x.boxBelow(belowDog), x.box(belowDog));
    }

    private static void meets(Worldage x, boolean due, int... pairs) {
        for (int i = 0; i < pairs.length; i += 2) {
            CHECK.due(pairs[i] + " meets " + pairs[i + 1], due, x.meet(pairs[i], pairs[i + 1]));
            CHECK.due(pairs[i + 1] + " meets " + pairs[i], due, x.meet(pairs[i + 1], pairs[i]));
        }
    }

    /** "no, if one is 2; yes, if one is below the other", "otherwise no". */
    private static void meetByFirstRules() {
        Worldage x = new Worldage();
        int animal = x.named(0, false);
        int dog = x.named(animal, true);
        int nothing = x.union(2, 2);
        meets(x, false, 2, 0, 2, 1, 2, 2, 2, dog, 2, x.box(2), 2, x.boxBelow(0), 2, nothing, 2, x.union(0, 0));
        meets(x, true, 0, 0, 0, 1, 1, x.ofInt(5), 1, 1, dog, animal, dog, dog, animal, 0, nothing, 1, nothing, dog);
        meets(x, true, x.box(2), x.boxBelow(dog), nothing, nothing);
        meets(x, false, 1, dog, x.ofInt(5), x.ofInt(6), dog, x.named(animal, true), x.named(0, false), animal);
        meets(x, false, x.box(1), 1, x.boxBelow(1), 1, x.box(dog), dog, x.boxBelow(dog), animal, x.ofInt(5), dog);
    }

    /** "if one is a union, if one of its parts meets the other type". */
    private static void meetByUnions() {
        Worldage x = new Worldage();
        int five = x.ofInt(5);
        int six = x.ofInt(6);
        int dog = x.named(0, true);
        int cat = x.named(0, true);
        int box = x.box(1);
        meets(x, true, x.union(dog, five), 1, x.union(five, dog), 1, x.union(dog, five), x.union(cat, 1));
        meets(x, true, x.union(dog, 1), x.union(six, cat), x.union(dog, box), x.union(x.boxBelow(0), cat));
        meets(x, true, x.union(x.union(dog, five), cat), x.union(box, x.union(box, 1)));
        meets(x, true, x.union(2, dog), x.union(dog, 1));
        meets(x, false, x.union(dog, five), cat, x.union(dog, five), six, x.union(dog, five), x.union(cat, six));
        meets(x, false, x.union(2, dog), 1, x.union(2, dog), 2, x.union(dog, cat), x.union(1, box));
    }

    /**
     * "yes, if both are 'o'; if one is 'b' and the other one 'o', if what the 'b' is made of is below what the 'o' is".
     */
    private static void meetOfBoxes() {
        Worldage x = new Worldage();
        int animal = x.named(0, false);
        int dog = x.named(animal, true);
        int cat = x.named(animal, true);
        meets(x, true, x.boxBelow(dog), x.boxBelow(cat), x.boxBelow(1), x.boxBelow(2), x.boxBelow(dog), x.boxBelow(1));
        meets(x, true, x.box(dog), x.boxBelow(dog), x.box(dog), x.boxBelow(animal), x.box(2), x.boxBelow(dog));
        meets(x, false, x.box(animal), x.boxBelow(dog), x.box(dog), x.boxBelow(cat), x.box(0), x.boxBelow(dog));
        meets(x, false, x.box(dog), x.box(cat), x.box(dog), x.box(animal), x.box(x.ofInt(5)), x.box(1));
        meets(x, true, x.box(1), x.box(x.union(1, x.ofInt(5))), x.box(dog), x.box(dog));
        meets(x, false, x.box(x.boxBelow(dog)), x.box(x.boxBelow(cat)), x.box(x.boxBelow(dog)), x.boxBelow(x.box(dog)));
        meets(x, true, x.boxBelow(x.box(dog)), x.boxBelow(x.box(cat)));
    }

    /** Joins what two arguments have: a node y of both. */
    private static Worldage joining() {
        Worldage x = new Worldage();
        x.define(x.prepare(0, 0, 0, x.node('y', x.node('a', 0, 0, 0), x.node('a', 1, 0, 0), 0)));
        return x;
    }

    /**
     * "The join of two types is the one that the other one is below, the second one if both are; otherwise their
     * union".
     */
    private static void joins() {
        Worldage x = joining();
        int animal = x.named(0, false);
        int dog = x.named(animal, true);
        int cat = x.named(animal, true);
        int[] threes = {dog, animal, animal, animal, dog, animal, dog, dog, dog, 0, 1, 0, 1, 0, 0,
            x.box(dog), x.boxBelow(animal), x.boxBelow(animal), x.boxBelow(dog), x.box(dog), x.boxBelow(dog)};
        for (int i = 0; i < threes.length; i += 3) {
            CHECK.due("join of " + threes[i] + " and " + threes[i + 1], threes[i + 2],
                    x.infer(0, threes[i], threes[i + 1]));
        }
        int either = x.union(dog, 1);
        int turned = x.union(1, dog);
        CHECK.due("both are below each other", turned, x.infer(0, either, turned));
        CHECK.due("the other way", either, x.infer(0, turned, either));
        int union = x.infer(0, dog, cat);
        CHECK.due("their union", x.union(dog, cat), union);
        CHECK.due("in their order", x.union(cat, dog), x.infer(0, cat, dog));
        CHECK.due("a part of the union", union, x.infer(0, dog, union));
        CHECK.due("a part of the union, behind it", union, x.infer(0, union, cat));
        CHECK.due("a union and one more", x.union(union, 1), x.infer(0, union, 1));
    }

    /** "or 0 if it would be too deep". */
    private static void joinsTooDeep() {
        Worldage x = joining();
        int dog = x.named(0, true);
        int three = x.box(x.box(x.box(dog)));
        int four = x.box(three);
        CHECK.due("first 3 deep", x.union(three, dog), x.infer(0, three, dog));
        CHECK.due("second 3 deep", x.union(dog, three), x.infer(0, dog, three));
        CHECK.due("first 4 deep", 0, x.infer(0, four, dog));
        CHECK.due("second 4 deep", 0, x.infer(0, dog, four));
        CHECK.due("both 4 deep", 0, x.infer(0, four, x.boxBelow(x.box(x.box(x.box(1))))));
        CHECK.due("one that the other is below", four, x.infer(0, four, four));
        int above = x.boxBelow(x.boxBelow(x.boxBelow(x.boxBelow(dog))));
        CHECK.due("4 deep above 4 deep", above, x.infer(0, four, above));
        CHECK.due("4 deep behind what is above it", above, x.infer(0, above, four));
        CHECK.throwing("no such type", NoSuchElementException.class, () -> x.infer(0, four, x.types()));
    }
}
