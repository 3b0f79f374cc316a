import java.util.NoSuchElementException;

/** Promises 2 to 9: named, ofInt, box, boxBelow, union, types, isBelow, meet. */
public final class TypesTest {
    private static final Check CHECK = new Check();

    public static void main(String[] args) {
        named();
        ints();
        boxes();
        unions();
        depths();
        full();
        below();
        meets();
        CHECK.end();
    }

    private static void named() {
        Worldage x = new Worldage();
        CHECK.due("named below 0", 3, x.named(0, false));
        CHECK.due("named concrete", 4, x.named(3, true));
        CHECK.due("the same again is another one", 5, x.named(3, true));
        CHECK.throwing("named of no type", NoSuchElementException.class, () -> x.named(6, true));
        CHECK.throwing("named of -1", NoSuchElementException.class, () -> x.named(-1, true));
        CHECK.throwing("named below ints", IllegalArgumentException.class, () -> x.named(1, false));
        CHECK.throwing("named below none", IllegalArgumentException.class, () -> x.named(2, false));
        CHECK.throwing("named below a concrete one", IllegalArgumentException.class, () -> x.named(4, false));
        int box = x.box(1);
        CHECK.throwing("named below a box", IllegalArgumentException.class, () -> x.named(box, false));
        CHECK.due("types", 7, x.types());
    }

    private static void ints() {
        Worldage x = new Worldage();
        CHECK.due("ofInt", 3, x.ofInt(5));
        CHECK.due("ofInt of another", 4, x.ofInt(Integer.MIN_VALUE));
        CHECK.due("ofInt again", 3, x.ofInt(5));
        CHECK.due("types", 5, x.types());
    }

    private static void boxes() {
        Worldage x = new Worldage();
        CHECK.due("box", 3, x.box(1));
        CHECK.due("boxBelow", 4, x.boxBelow(1));
        CHECK.due("box again", 3, x.box(1));
        CHECK.due("boxBelow again", 4, x.boxBelow(1));
        CHECK.due("box of a box", 5, x.box(4));
        CHECK.throwing("box of no type", NoSuchElementException.class, () -> x.box(6));
        CHECK.throwing("boxBelow of no type", NoSuchElementException.class, () -> x.boxBelow(-1));
        CHECK.due("types", 6, x.types());
    }

    private static void unions() {
        Worldage x = new Worldage();
        int one = x.ofInt(1);
        CHECK.due("union", 4, x.union(one, 1));
        CHECK.due("union the other way", 5, x.union(1, one));
        CHECK.due("union again", 4, x.union(one, 1));
        CHECK.due("union of the same", 6, x.union(1, 1));
        CHECK.throwing("union of no type", NoSuchElementException.class, () -> x.union(7, 1));
        CHECK.throwing("union with no type", NoSuchElementException.class, () -> x.union(1, -1));
        CHECK.due("types", 7, x.types());
    }

    private static void depths() {
        Worldage x = new Worldage();
        int type = 1;
        for (int i = 0; i < 4; i++) {
            type = x.box(type);
        }
        int deep = type;
        CHECK.due("four boxes", 6, deep);
        CHECK.throwing("box too deep", IllegalArgumentException.class, () -> x.box(deep));
        CHECK.throwing("boxBelow too deep", IllegalArgumentException.class, () -> x.boxBelow(deep));
        CHECK.throwing("union too deep, first", IllegalArgumentException.class, () -> x.union(deep, 1));
        CHECK.throwing("union too deep, second", IllegalArgumentException.class, () -> x.union(1, deep));
        CHECK.throwing("no such type is told first", NoSuchElementException.class, () -> x.union(deep, 60));
        int one = x.ofInt(1);
        int three = x.box(x.box(x.box(one)));
        CHECK.throwing("a type of one int is 1 deep", IllegalArgumentException.class, () -> x.box(three));
        int named = x.named(0, true);
        int four = x.box(x.box(x.box(x.box(named))));
        CHECK.throwing("a named type is 0 deep", IllegalArgumentException.class, () -> x.box(four));
        CHECK.due("types", 16, x.types());
    }

    private static void full() {
        Worldage x = new Worldage();
        for (int i = 0; i < 55; i++) {
            x.ofInt(i);
        }
        CHECK.due("types", 58, x.types());
        CHECK.due("box", 58, x.box(1));
        CHECK.due("named", 59, x.named(0, false));
        CHECK.due("types", 60, x.types());
        CHECK.throwing("named at 60", IllegalStateException.class, () -> x.named(59, true));
        CHECK.throwing("a wrong parent is told first", IllegalArgumentException.class, () -> x.named(1, true));
        CHECK.throwing("ofInt at 60", IllegalStateException.class, () -> x.ofInt(99));
        CHECK.throwing("box at 60", IllegalStateException.class, () -> x.box(58));
        CHECK.throwing("boxBelow at 60", IllegalStateException.class, () -> x.boxBelow(1));
        CHECK.throwing("union at 60", IllegalStateException.class, () -> x.union(1, 1));
        CHECK.due("one that is there", 7, x.ofInt(4));
        CHECK.due("a box that is there", 58, x.box(1));
        CHECK.due("types", 60, x.types());
    }

    private static void below() {
        Worldage x = new Worldage();
        int animal = x.named(0, false);
        int dog = x.named(animal, false);
        int pug = x.named(dog, true);
        int one = x.ofInt(1);
        int two = x.ofInt(2);
        int justPug = x.box(pug);
        int justDog = x.box(dog);
        int belowDog = x.boxBelow(dog);
        int belowAnimal = x.boxBelow(animal);
        int either = x.union(pug, one);
        int twice = x.union(pug, pug);
        below(x, true, pug, pug, pug, dog, pug, animal, 2, pug, pug, 0, 2, 2, 1, 0, one, 1, 2, one);
        below(x, false, animal, pug, 0, 1, 1, one, one, two, 1, pug, pug, 1, 0, 2, 1, 2);
        below(x, true, justPug, belowDog, justDog, belowDog, belowDog, belowAnimal, justPug, belowAnimal);
        below(x, false, belowDog, justDog, justPug, justDog, justDog, justPug, belowAnimal, belowDog, justPug, pug);
        below(x, true, either, 0, pug, either, one, either, twice, pug, pug, twice, either, x.union(1, animal));
        below(x, false, either, 1, either, pug, 1, either, two, either, either, x.union(1, two));
        below(x, true, x.box(twice), justPug, justPug, x.box(twice), x.boxBelow(twice), x.boxBelow(pug));
        below(x, true, either, x.union(one, pug), x.box(either), x.box(x.union(one, pug)));
        CHECK.throwing("isBelow of no type", NoSuchElementException.class, () -> x.isBelow(60, 0));
        CHECK.throwing("isBelow no type", NoSuchElementException.class, () -> x.isBelow(0, -1));
    }

    private static void below(Worldage x, boolean due, int... pairs) {
        for (int i = 0; i < pairs.length; i += 2) {
            CHECK.due(pairs[i] + " below " + pairs[i + 1], due, x.isBelow(pairs[i], pairs[i + 1]));
        }
    }

    private static void meets() {
        Worldage x = new Worldage();
        int animal = x.named(0, false);
        int dog = x.named(animal, true);
        int cat = x.named(animal, true);
        int one = x.ofInt(1);
        int two = x.ofInt(2);
        int justDog = x.box(dog);
        int justAnimal = x.box(animal);
        int belowDog = x.boxBelow(dog);
        int belowCat = x.boxBelow(cat);
        int belowAnimal = x.boxBelow(animal);
        meets(x, true, dog, animal, dog, dog, one, 1, 0, one, 0, 0, justDog, belowAnimal, justDog, belowDog);
        meets(x, false, 2, 2, 2, 0, 2, dog, dog, cat, one, two, dog, 1, justDog, justAnimal, justDog, belowCat);
        meets(x, true, belowDog, belowCat, belowDog, belowAnimal, justAnimal, belowAnimal);
        meets(x, false, justAnimal, belowDog, justDog, dog, belowDog, 1);
        int either = x.union(dog, one);
        meets(x, true, either, 1, either, animal, either, x.union(two, dog), x.union(2, 2), one);
        meets(x, false, either, cat, either, two, either, x.union(two, cat), either, 2, x.union(2, 2), 2);
        CHECK.throwing("meet of no type", NoSuchElementException.class, () -> x.meet(60, 0));
        CHECK.throwing("meet with no type", NoSuchElementException.class, () -> x.meet(0, -1));
    }

    private static void meets(Worldage x, boolean due, int... pairs) {
        for (int i = 0; i < pairs.length; i += 2) {
            CHECK.due(pairs[i] + " meets " + pairs[i + 1], due, x.meet(pairs[i], pairs[i + 1]));
            CHECK.due(pairs[i + 1] + " meets " + pairs[i], due, x.meet(pairs[i + 1], pairs[i]));
        }
    }
}
