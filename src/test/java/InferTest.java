import java.util.NoSuchElementException;

/** Promise 18: infer. */
public final class InferTest {
    private static final Check CHECK = new Check();

    public static void main(String[] args) {
        leavesAndSums();
        branches();
        objectsAndBoxes();
        boxesOfUnions();
        thrown();
        joins();
        narrowed();
        rounds();
        growing();
        fourRounds();
        joinsTooDeep();
        withinSix();
        refused();
        CHECK.end();
    }

    /** Infers a body alone, for one argument of any type. */
    private static int of(Worldage x, int body, int type) {
        int method = x.prepare(5, 0, -1, body);
        x.define(method);
        int answer = x.infer(5, type, -1);
        x.takeAway(method);
        return answer;
    }

    private static void leavesAndSums() {
        Worldage x = new Worldage();
        int three = x.ofInt(3);
        int dog = x.named(0, true);
        int a = x.node('a', 0, 0, 0);
        int b = x.node('a', 1, 0, 0);
        int n = x.node('n', 3, 0, 0);
        int most = x.node('n', Integer.MAX_VALUE, 0, 0);
        CHECK.due("no methods", 2, x.infer(0, 1, -1));
        // Behind the first round a type of one int gives way to the ints.
        CHECK.due("n", 1, of(x, n, 1));
        CHECK.due("a", dog, of(x, a, dog));
        CHECK.due("a of one int", 1, of(x, a, three));
        CHECK.due("a that is not there", 2, of(x, b, 1));
        CHECK.due("sum of ints", 1, of(x, x.node('+', a, n, 0), 1));
        CHECK.due("sum of 2", 2, of(x, x.node('+', b, n, 0), 1));
        CHECK.due("sum with 2", 2, of(x, x.node('*', n, b, 0), 1));
        CHECK.due("sum with an object", 2, of(x, x.node('-', a, n, 0), dog));
        CHECK.due("sum with what may be an int", 1, of(x, x.node('<', a, n, 0), 0));
        int box = x.node('x', a, 0, 0);
        int sums = x.node('+', most, n, 0);
        int less = x.node('<', sums, n, 0);
        CHECK.due("sums go round, so that it is less", x.box(dog), of(x, x.node('?', less, box, n), dog));
        int far = x.node('<', n, n, 0);
        CHECK.due("not less than itself", x.box(dog), of(x, x.node('?', far, n, box), dog));
        int zero = x.node('-', n, n, 0);
        CHECK.due("difference", x.box(dog), of(x, x.node('?', zero, n, box), dog));
        int square = x.node('*', zero, n, 0);
        CHECK.due("product", x.box(dog), of(x, x.node('?', square, n, box), dog));
    }

    private static void branches() {
        Worldage x = new Worldage();
        int dog = x.named(0, true);
        int cat = x.named(0, true);
        int a = x.node('a', 0, 0, 0);
        int b = x.node('a', 1, 0, 0);
        int one = x.node('n', 1, 0, 0);
        int makeDog = x.node('o', dog, one, 0);
        int makeCat = x.node('o', cat, one, 0);
        int either = x.node('?', a, makeDog, makeCat);
        CHECK.due("one int that is not 0", dog, of(x, x.node('?', one, makeDog, makeCat), 1));
        int union = of(x, either, 1);
        CHECK.due("either", x.union(dog, cat), union);
        CHECK.due("the argument 0", cat, of(x, either, x.ofInt(0)));
        CHECK.due("an object", 2, of(x, either, dog));
        CHECK.due("nothing", 2, of(x, x.node('?', b, makeDog, makeCat), 1));
        CHECK.due("anything", union, of(x, either, 0));
        CHECK.due("the same", dog, of(x, x.node('?', a, makeDog, makeDog), 1));
    }

    private static void objectsAndBoxes() {
        Worldage x = new Worldage();
        int animal = x.named(0, false);
        int dog = x.named(animal, true);
        int a = x.node('a', 0, 0, 0);
        int b = x.node('a', 1, 0, 0);
        int one = x.node('n', 1, 0, 0);
        int boxed = x.node('x', a, 0, 0);
        int opened = x.node('u', a, 0, 0);
        CHECK.due("o", dog, of(x, x.node('o', dog, one, 0), 1));
        CHECK.due("o of nothing", dog, of(x, x.node('o', dog, b, 0), 1));
        CHECK.due("f", 1, of(x, x.node('f', a, 0, 0), dog));
        CHECK.due("f of what has none", 1, of(x, x.node('f', b, 0, 0), dog));
        CHECK.due("d", 1, of(x, x.node('d', 39, 0, 0), 1));
        CHECK.due("l", 0, of(x, x.node('l', 0, b, -1), 1));
        CHECK.due("x of ints", x.box(1), of(x, boxed, 1));
        CHECK.due("x of one int", x.box(1), of(x, boxed, x.ofInt(7)));
        CHECK.due("x of some ints", x.box(1), of(x, boxed, x.union(x.ofInt(7), x.ofInt(8))));
        CHECK.due("x of a concrete type", x.box(dog), of(x, boxed, dog));
        CHECK.due("x of one that is not", x.boxBelow(animal), of(x, boxed, animal));
        CHECK.due("x of anything", x.boxBelow(0), of(x, boxed, 0));
        CHECK.due("x of a box", x.box(x.box(dog)), of(x, boxed, x.box(dog)));
        CHECK.due("x of a box below", x.boxBelow(x.boxBelow(dog)), of(x, boxed, x.boxBelow(dog)));
        CHECK.due("x of nothing", 2, of(x, x.node('x', b, 0, 0), dog));
        int deep = x.box(x.box(x.box(x.box(1))));
        CHECK.due("x too deep", 0, of(x, boxed, deep));
        CHECK.due("u of a box", x.box(dog), of(x, opened, x.box(x.box(dog))));
        CHECK.due("u of a box below", animal, of(x, opened, x.boxBelow(animal)));
        CHECK.due("u of an object", 0, of(x, opened, dog));
        CHECK.due("u of anything", 0, of(x, opened, 0));
        CHECK.due("u of nothing", 2, of(x, x.node('u', b, 0, 0), dog));
    }

    private static void boxesOfUnions() {
        Worldage x = new Worldage();
        int dog = x.named(0, true);
        int five = x.ofInt(5);
        int boxed = x.node('x', x.node('a', 0, 0, 0), 0, 0);
        int dogOrInt = x.union(dog, 1);
        CHECK.due("one int in a union", x.boxBelow(dogOrInt), of(x, boxed, x.union(dog, five)));
        CHECK.due("two of them, the first one below the rest", x.boxBelow(dogOrInt),
                of(x, boxed, x.union(five, x.union(dog, x.ofInt(6)))));
        int boxOfFive = x.box(five);
        CHECK.due("not in a box", x.boxBelow(x.union(boxOfFive, 1)), of(x, boxed, x.union(boxOfFive, five)));
        CHECK.due("a union that is too deep for a box", 0,
                of(x, boxed, x.union(dog, x.box(x.box(x.box(1))))));
    }

    private static void thrown() {
        Worldage x = new Worldage();
        int dog = x.named(0, true);
        int one = x.node('n', 1, 0, 0);
        int thrown = x.node('t', one, 0, 0);
        int makeDog = x.node('o', dog, one, 0);
        CHECK.due("t", 2, of(x, thrown, 1));
        CHECK.due("y of t", dog, of(x, x.node('y', thrown, makeDog, 0), 1));
        CHECK.due("y of both", x.union(dog, x.box(dog)),
                of(x, x.node('y', makeDog, x.node('x', makeDog, 0, 0), 0), 1));
        CHECK.due("c with 2", 2, of(x, x.node('c', 0, thrown, -1), 1));
        CHECK.due("c with 2 behind", 2, of(x, x.node('c', 0, one, thrown), 1));
    }

    private static void joins() {
        Worldage x = new Worldage();
        int animal = x.named(0, false);
        int dog = x.named(animal, true);
        int cat = x.named(animal, true);
        int a = x.node('a', 0, 0, 0);
        int one = x.node('n', 1, 0, 0);
        x.prepare(0, cat, -1, x.node('x', a, 0, 0));
        x.prepare(0, dog, -1, a);
        x.prepare(0, 1, -1, one);
        x.prepare(0, animal, animal, one);
        x.prepare(0, animal, -1, x.node('t', one, 0, 0));
        x.define(1);
        x.define(0);
        x.define(3);
        int boxOfCat = x.box(cat);
        CHECK.due("by rising numbers of methods", x.union(boxOfCat, dog), x.infer(0, animal, -1));
        CHECK.due("those that meet", dog, x.infer(0, dog, -1));
        x.define(2);
        CHECK.due("three", x.union(x.union(boxOfCat, dog), x.ofInt(1)), x.infer(0, 0, -1) == x.types() - 1
                ? x.union(x.union(boxOfCat, dog), x.ofInt(1)) : -1);
        x.define(4);
        CHECK.due("one more that has no value", dog, x.infer(0, dog, -1));
        CHECK.due("with two", 1, x.infer(0, dog, cat));
        CHECK.due("with nothing", 2, x.infer(0, 2, -1));
    }

    private static void narrowed() {
        Worldage x = new Worldage();
        int animal = x.named(0, false);
        int dog = x.named(animal, true);
        int a = x.node('a', 0, 0, 0);
        int b = x.node('a', 1, 0, 0);
        x.prepare(0, dog, -1, a);
        x.prepare(1, animal, animal, b);
        x.prepare(2, x.union(dog, 1), -1, a);
        x.define(0);
        x.define(1);
        x.define(2);
        CHECK.due("the parameter is below", dog, x.infer(0, animal, -1));
        CHECK.due("the second one", animal, x.infer(1, dog, 0));
        CHECK.due("the argument is below", dog, x.infer(1, animal, dog));
        int other = x.union(1, dog);
        CHECK.due("below each other", other, x.infer(2, other, -1));
        CHECK.due("neither", animal, x.infer(2, animal, -1) == animal ? animal : -1);
    }

    /** A body that calls itself with less: nothing at first, then more with each round. */
    private static void rounds() {
        Worldage x = new Worldage();
        int a = x.node('a', 0, 0, 0);
        int one = x.node('n', 1, 0, 0);
        int two = x.node('n', 2, 0, 0);
        int small = x.node('<', a, two, 0);
        int less = x.node('c', 0, x.node('-', a, one, 0), -1);
        int sum = x.node('+', less, one, 0);
        x.define(x.prepare(0, 1, -1, x.node('?', small, a, sum)));
        CHECK.due("itself", 1, x.infer(0, 1, -1));
        CHECK.due("itself, of one int", 1, x.infer(0, x.ofInt(4), -1));
        x.define(x.prepare(1, 1, -1, x.node('c', 1, a, -1)));
        CHECK.due("round and round", 2, x.infer(1, 1, -1));
        x.define(x.prepare(2, 1, -1, x.node('c', 2, x.node('+', a, one, 0), -1)));
        CHECK.due("always another one int", 0, x.infer(2, x.ofInt(0), -1));
    }

    /** Boxes in boxes: each round finds more, and the fourth is not the last that would. */
    private static void growing() {
        Worldage x = new Worldage();
        int dog = x.named(0, true);
        int a = x.node('a', 0, 0, 0);
        int one = x.node('n', 1, 0, 0);
        int self = x.node('c', 0, x.node('-', a, one, 0), -1);
        int object = x.node('o', dog, one, 0);
        x.define(x.prepare(0, 1, -1, x.node('?', a, x.node('x', self, 0, 0), object)));
        CHECK.due("growing", 0, x.infer(0, 1, -1));
        x.define(x.prepare(1, 1, -1, x.node('?', a, x.node('c', 1, one, -1), object)));
        CHECK.due("not growing", dog, x.infer(1, 1, -1));
    }

    /** The fourth round is as the third one was; with one step more on the way, it is not. */
    private static void fourRounds() {
        Worldage x = new Worldage();
        int dog = x.named(0, true);
        int cat = x.named(0, true);
        int bird = x.named(0, true);
        int a = x.node('a', 0, 0, 0);
        int one = x.node('n', 1, 0, 0);
        int self = x.node('c', 0, x.node('-', a, one, 0), -1);
        int turned = x.node('c', 1, self, -1);
        x.define(x.prepare(0, 1, -1, x.node('?', a, turned, x.node('o', dog, one, 0))));
        x.define(x.prepare(1, dog, -1, x.node('o', cat, one, 0)));
        x.define(x.prepare(1, cat, -1, x.node('o', cat, one, 0)));
        CHECK.due("cats and dogs", x.union(cat, dog), x.infer(0, 1, -1));
        x.define(x.prepare(1, cat, -1, x.node('o', bird, one, 0)));
        x.define(x.prepare(1, bird, -1, x.node('o', bird, one, 0)));
        CHECK.due("one step more", 0, x.infer(0, 1, -1));
    }

    private static void joinsTooDeep() {
        Worldage x = new Worldage();
        int dog = x.named(0, true);
        int a = x.node('a', 0, 0, 0);
        int one = x.node('n', 1, 0, 0);
        int object = x.node('o', dog, one, 0);
        int deep = x.box(x.box(x.box(x.box(dog))));
        CHECK.due("first too deep", 0, of(x, x.node('y', a, object, 0), deep));
        CHECK.due("second too deep", 0, of(x, x.node('y', object, a, 0), deep));
        int three = x.box(x.box(x.box(dog)));
        CHECK.due("just not too deep", x.union(three, dog), of(x, x.node('y', a, object, 0), three));
        CHECK.due("nothing beside it", deep, of(x, x.node('y', a, a, 0), deep));
    }

    private static void withinSix() {
        Worldage x = new Worldage();
        int dog = x.named(0, true);
        int a = x.node('a', 0, 0, 0);
        int one = x.node('n', 1, 0, 0);
        for (int i = 0; i < 5; i++) {
            x.define(x.prepare(i, 1, -1, x.node('c', i + 1, a, -1)));
        }
        int object = x.node('o', dog, one, 0);
        int last = x.prepare(5, 1, -1, object);
        x.define(last);
        CHECK.due("a chain of six", dog, x.infer(0, 1, -1));
        x.define(x.prepare(0, x.box(1), -1, object));
        int seventh = x.node('c', 0, x.node('x', a, 0, 0), -1);
        int longer = x.prepare(5, 1, -1, x.node('?', a, object, seventh));
        x.define(longer);
        CHECK.due("the seventh has anything", 0, x.infer(0, 1, -1));
        CHECK.due("from the second on it is found", dog, x.infer(1, 1, -1));
        int first = x.node('c', 0, a, -1);
        x.define(x.prepare(5, 1, -1, x.node('?', a, object, first)));
        CHECK.due("one that is being found is none of six", dog, x.infer(0, 1, -1));
    }

    private static void refused() {
        Worldage x = new Worldage();
        int a = x.node('a', 0, 0, 0);
        x.define(x.prepare(0, 0, -1, x.node('x', x.node('x', a, 0, 0), 0, 0)));
        CHECK.throwing("function 6", IllegalArgumentException.class, () -> x.infer(6, 99, -1));
        CHECK.throwing("function -1", IllegalArgumentException.class, () -> x.infer(-1, 1, -1));
        CHECK.throwing("no type", NoSuchElementException.class, () -> x.infer(0, 3, -1));
        CHECK.throwing("first -1", NoSuchElementException.class, () -> x.infer(0, -1, -1));
        CHECK.throwing("second -2", NoSuchElementException.class, () -> x.infer(0, 1, -2));
        for (int i = 0; i < 56; i++) {
            x.ofInt(i);
        }
        CHECK.due("types", 59, x.types());
        CHECK.throwing("two types more", UnsupportedOperationException.class, () -> x.infer(0, 1, -1));
        CHECK.due("nothing changed", 59, x.types());
        int box = x.box(1);
        CHECK.due("the box alone", 59, box);
        CHECK.throwing("one type more", UnsupportedOperationException.class, () -> x.infer(0, 1, -1));
        CHECK.due("nothing to have", 2, x.infer(1, 1, -1));
        Worldage y = new Worldage();
        y.define(y.prepare(0, 0, -1, y.node('x', y.node('x', y.node('a', 0, 0, 0), 0, 0), 0, 0)));
        CHECK.due("what it is made of is ahead", 4, y.infer(0, 1, -1));
        CHECK.due("as box", 3, y.box(1));
        CHECK.due("as box of that", 4, y.box(3));
    }
}
