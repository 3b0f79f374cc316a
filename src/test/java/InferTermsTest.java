/** The document's terms, "Inferring": each sentence that names a limit or an edge, and both sides of it. */
public final class InferTermsTest {
    private static final Check CHECK = new Check();

    public static void main(String[] args) {
        methodsThatMeet();
        risingNumbers();
        givingWay();
        leaves();
        sums();
        sumsOfOneInt();
        conditions();
        calls();
        boxes();
        boxesTooDeep();
        boxesOfUnions();
        boxesOfUnionsWithoutOneInt();
        opened();
        thrownAndJoined();
        foundAlready();
        beingFound();
        withinSix();
        behindTheFirstRound();
        fourRounds();
        fewerCalls();
        eachCallIsAny();
        CHECK.end();
    }

    /** Infers a body alone, for one argument of this type or for two. */
    private static int of(Worldage x, int body, int first, int second) {
        int method = x.prepare(5, 0, second < 0 ? -1 : 0, body);
        x.define(method);
        int answer = x.infer(5, first, second);
        x.takeAway(method);
        return answer;
    }

    private static int of(Worldage x, int body, int first) {
        return of(x, body, first, -1);
    }

    /** "by its methods that are there with as many parameters and whose types each meet those of the arguments". */
    private static void methodsThatMeet() {
        Worldage x = new Worldage();
        int dog = x.named(0, true);
        int cat = x.named(0, true);
        int n = x.node('n', 1, 0, 0);
        int object = x.node('o', dog, n, 0);
        int other = x.node('o', cat, n, 0);
        CHECK.due("no methods", 2, x.infer(0, 1, -1));
        x.define(x.prepare(0, 1, -1, object));
        x.define(x.prepare(0, 1, dog, other));
        CHECK.due("one", dog, x.infer(0, 1, -1));
        CHECK.due("two", cat, x.infer(0, 1, dog));
        CHECK.due("the first one does not meet", 2, x.infer(0, dog, -1));
        CHECK.due("the first of two does not meet", 2, x.infer(0, dog, dog));
        CHECK.due("the second of two does not meet", 2, x.infer(0, 1, 1));
        CHECK.due("all", dog, x.infer(0, 0, -1));
        CHECK.due("all of two", cat, x.infer(0, 0, 0));
        CHECK.due("2 meets none", 2, x.infer(0, 2, -1));
        CHECK.due("2 meets none as the second one", 2, x.infer(0, 1, 2));
        CHECK.due("some ints", dog, x.infer(0, x.union(cat, x.ofInt(3)), -1));
        CHECK.due("a union of 2 and 2 meets all but 2", dog, x.infer(0, x.union(2, 2), -1));
        x.takeAway(0);
        CHECK.due("not there", 2, x.infer(0, 1, -1));
        x.define(x.prepare(0, 1, cat, object));
        CHECK.due("by the second one", dog, x.infer(0, 1, cat));
        CHECK.due("both", x.union(cat, dog), x.infer(0, 1, 0));
    }

    /** "the join, by rising numbers of methods, beginning with 2", whatever ages they came at. */
    private static void risingNumbers() {
        Worldage x = new Worldage();
        int dog = x.named(0, true);
        int cat = x.named(0, true);
        int a = x.node('a', 0, 0, 0);
        x.prepare(0, 1, -1, x.node('o', cat, a, 0));
        x.prepare(0, 0, -1, x.node('o', dog, a, 0));
        x.prepare(0, x.ofInt(3), -1, x.node('t', a, 0, 0));
        x.define(1);
        CHECK.due("one", dog, x.infer(0, 1, -1));
        x.define(0);
        int union = x.union(cat, dog);
        CHECK.due("the lower number first", union, x.infer(0, 1, -1));
        x.define(2);
        CHECK.due("one that adds 2", union, x.infer(0, 1, -1));
        x.takeAway(0);
        x.takeAway(1);
        CHECK.due("2 alone", 2, x.infer(0, 1, -1));
    }

    /** "each one that the parameter's type is below, but is not below that, gives way to this". */
    private static void givingWay() {
        Worldage x = new Worldage();
        int animal = x.named(0, false);
        int dog = x.named(animal, true);
        int either = x.union(dog, 1);
        int turned = x.union(1, dog);
        int a = x.node('a', 0, 0, 0);
        int b = x.node('a', 1, 0, 0);
        x.define(x.prepare(0, dog, dog, a));
        x.define(x.prepare(1, dog, dog, b));
        x.define(x.prepare(2, either, -1, a));
        x.define(x.prepare(3, animal, -1, a));
        x.define(x.prepare(4, x.ofInt(5), -1, x.node('?', a, a, x.node('o', dog, a, 0))));
        CHECK.due("the first gives way", dog, x.infer(0, 0, 0));
        CHECK.due("the second gives way", dog, x.infer(1, 0, animal));
        CHECK.due("below each other: it stays", turned, x.infer(2, turned, -1));
        CHECK.due("the same", either, x.infer(2, either, -1));
        CHECK.due("the argument is below: it stays", dog, x.infer(3, dog, -1));
        CHECK.due("neither is below: it stays", either, x.infer(3, either, -1));
        CHECK.due("one int, so that the branch is known", 1, x.infer(4, 1, -1));
    }

    /**
     * "'n' the type of one int; 'a' that of the argument, 2 if there is none"; "'l' 0; 'o' the named type; 'f' and 'd'
     * 1".
     */
    private static void leaves() {
        Worldage x = new Worldage();
        int dog = x.named(0, true);
        int a = x.node('a', 0, 0, 0);
        int b = x.node('a', 1, 0, 0);
        for (int type = 0; type <= dog; type++) {
            CHECK.due("first", type, of(x, a, type));
            CHECK.due("first of two", type, of(x, a, type, 1));
            CHECK.due("second", type, of(x, b, 1, type));
            CHECK.due("no second", 2, of(x, b, type));
        }
        int n = x.node('n', 5, 0, 0);
        int object = x.node('o', dog, n, 0);
        CHECK.due("n has its int alone", dog, of(x, x.node('?', n, object, n), 1));
        CHECK.due("l, even of nothing", 0, of(x, x.node('l', 0, b, -1), 1));
        CHECK.due("l, where nothing is there", 0, of(x, x.node('l', 0, a, a), 1));
        CHECK.due("o, even of nothing", dog, of(x, x.node('o', dog, b, 0), 1));
        CHECK.due("f, even of nothing", 1, of(x, x.node('f', b, 0, 0), 1));
        CHECK.due("f of an int", 1, of(x, x.node('f', n, 0, 0), 1));
        CHECK.due("d, even if it cannot be done", 1, of(x, x.node('d', 39, 0, 0), 1));
    }

    /** "2 if one is 2 or does not meet 1, otherwise 1". */
    private static void sums() {
        for (char kind : new char[] {'+', '-', '*', '<'}) {
            Worldage x = new Worldage();
            int dog = x.named(0, true);
            int three = x.ofInt(3);
            int box = x.box(1);
            int mixed = x.union(dog, three);
            int hollow = x.union(2, 2);
            x.define(x.prepare(0, 0, 0, x.node(kind, x.node('a', 0, 0, 0), x.node('a', 1, 0, 0), 0)));
            int none = x.node('a', 1, 0, 0);
            int[] ints = {0, 1, three, mixed, hollow, x.union(three, x.ofInt(4)), x.union(box, 1)};
            int[] others = {2, dog, box, x.boxBelow(0), x.union(dog, box), x.union(2, dog)};
            for (int first : ints) {
                for (int second : ints) {
                    CHECK.due(kind + " of " + first + " and " + second, 1, x.infer(0, first, second));
                }
                for (int other : others) {
                    CHECK.due(kind + " of " + first + " and " + other, 2, x.infer(0, first, other));
                    CHECK.due(kind + " of " + other + " and " + first, 2, x.infer(0, other, first));
                }
            }
            int n = x.node('n', 3, 0, 0);
            CHECK.due(kind + " of nothing and an int", 2, of(x, x.node(kind, none, n, 0), 1));
            CHECK.due(kind + " of an int and nothing", 2, of(x, x.node(kind, n, none, 0), 1));
        }
    }

    /** "if both are types of one int, that of what comes out": told by the branch that is then taken. */
    private static void sumsOfOneInt() {
        comesOut('+', Integer.MAX_VALUE, 1, Integer.MIN_VALUE);
        comesOut('+', 3, -3, 0);
        comesOut('-', Integer.MIN_VALUE, 1, Integer.MAX_VALUE);
        comesOut('-', 3, 5, -2);
        comesOut('*', Integer.MIN_VALUE, -1, Integer.MIN_VALUE);
        comesOut('*', 65536, 65536, 0);
        comesOut('<', Integer.MIN_VALUE, Integer.MAX_VALUE, 1);
        comesOut('<', 3, 3, 0);
        comesOut('<', 4, 3, 0);
    }

    private static void comesOut(char kind, int a, int b, int due) {
        Worldage x = new Worldage();
        int dog = x.named(0, true);
        int cat = x.named(0, true);
        int node = x.node(kind, x.node('n', a, 0, 0), x.node('n', b, 0, 0), 0);
        int object = x.node('o', dog, node, 0);
        int other = x.node('o', cat, node, 0);
        for (int away = -1; away <= 1; away++) {
            int rest = x.node('-', node, x.node('n', due + away, 0, 0), 0);
            CHECK.due(a + " " + kind + " " + b + " is not " + due + " and " + away, away == 0 ? cat : dog,
                    of(x, x.node('?', rest, object, other), 1));
        }
    }

    /**
     * "if a is the type of one int, what b or c has, 2 if a is 2 or does not meet 1, otherwise the join of b and c".
     */
    private static void conditions() {
        Worldage x = new Worldage();
        int dog = x.named(0, true);
        int cat = x.named(0, true);
        int a = x.node('a', 0, 0, 0);
        int object = x.node('o', dog, a, 0);
        int other = x.node('o', cat, a, 0);
        x.define(x.prepare(0, 0, -1, x.node('?', a, object, other)));
        int both = x.union(dog, cat);
        for (int n : new int[] {1, -1, 2, Integer.MAX_VALUE, Integer.MIN_VALUE}) {
            CHECK.due("the int " + n, dog, x.infer(0, x.ofInt(n), -1));
        }
        CHECK.due("the int 0", cat, x.infer(0, x.ofInt(0), -1));
        int zero = x.ofInt(0);
        int[] unsure = {0, 1, x.union(dog, 1), x.union(dog, zero), x.union(zero, zero), x.union(2, 2)};
        for (int type : unsure) {
            CHECK.due("type " + type, both, x.infer(0, type, -1));
        }
        for (int type : new int[] {2, dog, x.box(1), x.union(dog, cat), x.boxBelow(0), x.union(2, cat)}) {
            CHECK.due("type " + type, 2, x.infer(0, type, -1));
        }
        int b = x.node('a', 1, 0, 0);
        CHECK.due("nothing", 2, of(x, x.node('?', b, object, other), 1));
        CHECK.due("b alone, as c has 2", dog, of(x, x.node('?', a, object, b), 1));
        CHECK.due("c alone, as b has 2", dog, of(x, x.node('?', a, b, object), 1));
    }

    /** "'c' what is inferred for the call, 2 if an argument is 2". */
    private static void calls() {
        Worldage x = new Worldage();
        int dog = x.named(0, true);
        int a = x.node('a', 0, 0, 0);
        int none = x.node('a', 1, 0, 0);
        int thrown = x.node('t', a, 0, 0);
        int object = x.node('o', dog, a, 0);
        x.define(x.prepare(0, 0, -1, object));
        x.define(x.prepare(0, 0, 0, object));
        CHECK.due("one", dog, of(x, x.node('c', 0, a, -1), 1));
        CHECK.due("two", dog, of(x, x.node('c', 0, a, a), 1));
        CHECK.due("one with nothing", 2, of(x, x.node('c', 0, thrown, -1), 1));
        CHECK.due("the first with nothing", 2, of(x, x.node('c', 0, none, a), 1));
        CHECK.due("the second with nothing", 2, of(x, x.node('c', 0, a, none), 1));
        CHECK.due("nothing that is a union", dog, of(x, x.node('c', 0, a, -1), x.union(2, 2)));
        CHECK.due("a call in a call", dog, of(x, x.node('c', 0, x.node('c', 0, a, -1), -1), 1));
        CHECK.due("a call of what is not there", 2, of(x, x.node('c', 0, x.node('c', 1, a, -1), -1), 1));
    }

    /**
     * "'x' 2 if a is 2; a box 'b' of 1 if a is below 1, of a itself if it is a concrete named type or 'b', otherwise
     * 'o'".
     */
    private static void boxes() {
        Worldage x = new Worldage();
        int animal = x.named(0, false);
        int dog = x.named(animal, true);
        int five = x.ofInt(5);
        int box = x.box(1);
        x.define(x.prepare(0, 0, -1, x.node('x', x.node('a', 0, 0, 0), 0, 0)));
        int[] ints = {1, five, x.union(five, x.ofInt(6)), x.union(1, five), x.union(2, five), x.union(2, 2)};
        for (int type : ints) {
            CHECK.due("box of " + type, box, x.infer(0, type, -1));
        }
        CHECK.due("of 2", 2, x.infer(0, 2, -1));
        CHECK.due("of a concrete one", x.box(dog), x.infer(0, dog, -1));
        CHECK.due("of a box", x.box(box), x.infer(0, box, -1));
        CHECK.due("of a box of one int", x.box(x.box(five)), x.infer(0, x.box(five), -1));
        CHECK.due("of one that is not concrete", x.boxBelow(animal), x.infer(0, animal, -1));
        CHECK.due("of all", x.boxBelow(0), x.infer(0, 0, -1));
        CHECK.due("of a box below", x.boxBelow(x.boxBelow(dog)), x.infer(0, x.boxBelow(dog), -1));
        int either = x.union(dog, 1);
        CHECK.due("of a union", x.boxBelow(either), x.infer(0, either, -1));
        int none = x.node('a', 1, 0, 0);
        CHECK.due("of nothing", 2, of(x, x.node('x', none, 0, 0), 1));
    }

    /** "0 if it is too deep": of what is 4 deep, but not of what is 3 deep. */
    private static void boxesTooDeep() {
        Worldage x = new Worldage();
        int dog = x.named(0, true);
        x.define(x.prepare(0, 0, -1, x.node('x', x.node('a', 0, 0, 0), 0, 0)));
        int three = x.box(x.box(x.box(dog)));
        int four = x.box(three);
        CHECK.due("box, 3 deep", four, x.infer(0, three, -1));
        CHECK.due("box, 4 deep", 0, x.infer(0, four, -1));
        int belowThree = x.boxBelow(x.box(x.box(dog)));
        int belowFour = x.boxBelow(belowThree);
        CHECK.due("box below, 3 deep", belowFour, x.infer(0, belowThree, -1));
        CHECK.due("box below, 4 deep", 0, x.infer(0, belowFour, -1));
        int union = x.union(dog, x.box(x.box(1)));
        CHECK.due("union, 3 deep", x.boxBelow(union), x.infer(0, union, -1));
        CHECK.due("union, 4 deep", 0, x.infer(0, x.union(dog, three), -1));
        CHECK.due("ints, 4 deep", x.box(1), x.infer(0, x.union(x.union(x.union(1, 1), 1), 1), -1));
    }

    /**
     * "each type of one int that is a part of a union in it, but not of a box, becomes 1, by joining both parts then".
     */
    private static void boxesOfUnions() {
        Worldage x = new Worldage();
        int dog = x.named(0, true);
        int five = x.ofInt(5);
        int six = x.ofInt(6);
        int boxOfFive = x.box(five);
        x.define(x.prepare(0, 0, -1, x.node('x', x.node('a', 0, 0, 0), 0, 0)));
        int dogOrInt = x.union(dog, 1);
        int intOrDog = x.union(1, dog);
        CHECK.due("second", x.boxBelow(dogOrInt), x.infer(0, x.union(dog, five), -1));
        CHECK.due("first", x.boxBelow(intOrDog), x.infer(0, x.union(five, dog), -1));
        CHECK.due("two, one after the other", x.boxBelow(dogOrInt), x.infer(0, x.union(x.union(dog, five), six), -1));
        CHECK.due("two, one within", x.boxBelow(dogOrInt), x.infer(0, x.union(five, x.union(dog, six)), -1));
        CHECK.due("not of a box", x.boxBelow(x.union(boxOfFive, dog)), x.infer(0, x.union(boxOfFive, dog), -1));
        CHECK.due("of a box and beside it", x.boxBelow(x.union(boxOfFive, 1)), x.infer(0, x.union(boxOfFive, six), -1));
        int deep = x.union(dog, x.union(five, x.union(six, five)));
        CHECK.due("4 deep at first", x.boxBelow(dogOrInt), x.infer(0, deep, -1));
    }

    /** "by joining both parts then": a union in which no type becomes 1 stays, one that is a part beside it too. */
    private static void boxesOfUnionsWithoutOneInt() {
        Worldage x = new Worldage();
        int animal = x.named(0, false);
        int dog = x.named(animal, true);
        int five = x.ofInt(5);
        x.define(x.prepare(0, 0, -1, x.node('x', x.node('a', 0, 0, 0), 0, 0)));
        int stays = x.union(dog, animal);
        int[] unions = {stays, x.union(animal, dog), x.union(dog, dog), x.union(2, dog), x.union(dog, 2),
            x.union(animal, 0), x.union(dog, stays), x.union(1, x.union(1, dog)), x.union(x.box(five), x.boxBelow(0))};
        for (int union : unions) {
            CHECK.due("no one int in " + union, x.boxBelow(union), x.infer(0, union, -1));
        }
        CHECK.due("beside it", x.boxBelow(x.union(stays, 1)), x.infer(0, x.union(stays, five), -1));
        CHECK.due("behind it", x.boxBelow(x.union(1, stays)), x.infer(0, x.union(five, stays), -1));
        CHECK.due("that which it is a part of is joined", x.boxBelow(x.union(animal, 1)),
                x.infer(0, x.union(x.union(animal, five), dog), -1));
        CHECK.due("it is joined itself", x.boxBelow(0), x.infer(0, x.union(five, 0), -1));
        CHECK.due("with nothing", x.boxBelow(x.union(1, dog)), x.infer(0, x.union(x.union(2, five), dog), -1));
    }

    /** "'u' 2 if a is 2, what a 'b' or 'o' is made of, otherwise 0". */
    private static void opened() {
        Worldage x = new Worldage();
        int dog = x.named(0, true);
        int five = x.ofInt(5);
        x.define(x.prepare(0, 0, -1, x.node('u', x.node('a', 0, 0, 0), 0, 0)));
        CHECK.due("of 2", 2, x.infer(0, 2, -1));
        for (int type : new int[] {0, 1, 2, dog, x.box(dog), x.boxBelow(1), x.union(dog, 1)}) {
            CHECK.due("box of " + type, type, x.infer(0, x.box(type), -1));
            CHECK.due("box below " + type, type, x.infer(0, x.boxBelow(type), -1));
        }
        CHECK.due("box of one int, which becomes 1 as the result", 1, x.infer(0, x.box(five), -1));
        for (int type : new int[] {0, 1, five, dog, x.union(x.box(1), x.box(1)), x.union(2, 2)}) {
            CHECK.due("no box: " + type, 0, x.infer(0, type, -1));
        }
        CHECK.due("of nothing", 2, of(x, x.node('u', x.node('a', 1, 0, 0), 0, 0), 1));
    }

    /** "'t' 2; 'y' the join of a and b". */
    private static void thrownAndJoined() {
        Worldage x = new Worldage();
        int dog = x.named(0, true);
        int a = x.node('a', 0, 0, 0);
        int thrown = x.node('t', a, 0, 0);
        int object = x.node('o', dog, a, 0);
        CHECK.due("thrown", 2, of(x, thrown, 1));
        CHECK.due("an object thrown", 2, of(x, thrown, dog));
        CHECK.due("both", x.union(dog, 1), of(x, x.node('y', object, a, 0), 1));
        CHECK.due("both, even if the first is not thrown", x.union(1, dog), of(x, x.node('y', a, object, 0), 1));
        CHECK.due("the second", dog, of(x, x.node('y', thrown, object, 0), 1));
        CHECK.due("the first", dog, of(x, x.node('y', object, thrown, 0), 1));
        CHECK.due("neither", 2, of(x, x.node('y', thrown, thrown, 0), 1));
    }

    /** Functions 0 to 4 call each other in turn, and the last one function 5, which would be found within 6 others. */
    private static Worldage chain(boolean isFoundFirst) {
        Worldage x = new Worldage();
        int dog = x.named(0, true);
        int a = x.node('a', 0, 0, 0);
        int object = x.node('o', dog, a, 0);
        x.define(x.prepare(5, 1, -1, object));
        int last = x.node('c', 5, a, -1);
        for (int function = 1; function < 4; function++) {
            x.define(x.prepare(function, 1, -1, x.node('c', function + 1, a, -1)));
        }
        x.define(x.prepare(4, 1, -1, x.node('c', 4, x.node('x', a, 0, 0), -1)));
        x.define(x.prepare(4, x.box(1), -1, x.node('c', 5, x.node('u', a, 0, 0), -1)));
        int next = x.node('c', 1, a, -1);
        x.define(x.prepare(0, 1, -1, isFoundFirst ? x.node('y', last, next, 0) : x.node('y', next, last, 0)));
        return x;
    }

    /** "If a call with the same types was found in this round already, it is that". */
    private static void foundAlready() {
        CHECK.due("found already", 3, chain(true).infer(0, 1, -1));
        CHECK.due("not found yet", 0, chain(false).infer(0, 1, -1));
        CHECK.due("found within 5 others", 3, chain(false).infer(1, 1, -1));
    }

    /** "if it is being found, it is what was found for it in the round before, 2 at first", also within 6 others. */
    private static void beingFound() {
        Worldage x = new Worldage();
        int dog = x.named(0, true);
        int a = x.node('a', 0, 0, 0);
        int object = x.node('o', dog, a, 0);
        x.define(x.prepare(0, 1, -1, x.node('c', 0, a, -1)));
        CHECK.due("nothing but itself", 2, x.infer(0, 1, -1));
        x.define(x.prepare(0, 1, -1, x.node('?', a, x.node('c', 0, a, -1), object)));
        CHECK.due("itself or an object", dog, x.infer(0, 1, -1));
        x.define(x.prepare(1, 1, -1, x.node('x', x.node('c', 1, a, -1), 0, 0)));
        CHECK.due("a box with 2", 2, x.infer(1, 1, -1));
        for (int function = 0; function < 5; function++) {
            x.define(x.prepare(function, 1, -1, x.node('c', function + 1, a, -1)));
        }
        x.define(x.prepare(5, 1, -1, x.node('?', a, object, x.node('c', 0, a, -1))));
        CHECK.due("round through six", dog, x.infer(0, 1, -1));
        CHECK.due("from another one on", dog, x.infer(3, 1, -1));
    }

    /** "A call that would be found within 6 others is 0": each int up to 6 calls the next one. */
    private static void withinSix() {
        Worldage x = new Worldage();
        int dog = x.named(0, true);
        int a = x.node('a', 0, 0, 0);
        int six = x.node('n', 6, 0, 0);
        int next = x.node('c', 0, x.node('+', a, x.node('n', 1, 0, 0), 0), -1);
        x.define(x.prepare(0, 1, -1, x.node('?', x.node('<', a, six, 0), next, x.node('o', dog, a, 0))));
        int[] due = {0, 0, dog, dog, dog, dog, dog, dog};
        for (int n = -1; n <= 6; n++) {
            CHECK.due("from " + n, due[n + 1], x.infer(0, x.ofInt(n), -1));
        }
    }

    /** The node that turning() tells last, for bodies of function 0. */
    private static final int TURNED = 6;

    /**
     * Function 1 turns each of some named types into the next one, the last one into itself. The node has the first
     * one, or what is turned of what function 0 has with less.
     */
    private static Worldage turning(int count) {
        Worldage x = new Worldage();
        for (int i = 0; i < count; i++) {
            x.named(0, true);
        }
        int a = x.node('a', 0, 0, 0);
        int less = x.node('-', a, x.node('n', 1, 0, 0), 0);
        int turned = x.node('c', 1, x.node('c', 0, less, -1), -1);
        CHECK.due("the node", TURNED, x.node('?', a, turned, x.node('o', 3, a, 0)));
        for (int i = 0; i < count; i++) {
            x.define(x.prepare(1, 3 + i, -1, x.node('o', Math.min(4 + i, 2 + count), a, 0)));
        }
        return x;
    }

    /**
     * "A type of one int that is found for a call behind the first round becomes 1": in the first round it does not, so
     * that here a condition with it leads to nothing yet, and what follows is found a round later, which is too late.
     */
    private static void behindTheFirstRound() {
        for (int way = 0; way < 2; way++) {
            Worldage x = turning(2);
            int zero = x.node('n', 0, 0, 0);
            int condition = x.node('c', 2, 0, -1);
            x.define(x.prepare(2, 1, -1, way == 0 ? zero : 0));
            x.define(x.prepare(0, 1, -1, x.node('?', condition, TURNED, x.node('t', zero, 0, 0))));
            int type = x.infer(0, 1, -1);
            CHECK.due(way == 0 ? "one int at first" : "ints at first", way == 0 ? 0 : x.union(4, 3), type);
        }
        Worldage x = new Worldage();
        x.define(x.prepare(0, 1, -1, x.node('n', 5, 0, 0)));
        CHECK.due("n", 1, x.infer(0, 1, -1));
        CHECK.due("n of n", 1, x.infer(0, x.ofInt(3), -1));
        x.define(x.prepare(0, 1, -1, x.node('a', 0, 0, 0)));
        CHECK.due("a", 1, x.infer(0, x.ofInt(3), -1));
        int either = x.union(x.ofInt(3), x.ofInt(4));
        CHECK.due("unions stay", either, x.infer(0, either, -1));
    }

    /** "Rounds are made until one has found the same calls with the same types as that before, at most 4". */
    private static void fourRounds() {
        Worldage three = turning(1);
        three.define(three.prepare(0, 1, -1, TURNED));
        CHECK.due("the third is as the second", 3, three.infer(0, 1, -1));
        Worldage four = turning(2);
        four.define(four.prepare(0, 1, -1, TURNED));
        int type = four.infer(0, 1, -1);
        CHECK.due("the fourth is as the third", four.union(4, 3), type);
        Worldage five = turning(3);
        five.define(five.prepare(0, 1, -1, TURNED));
        CHECK.due("the fourth finds another call", 0, five.infer(0, 1, -1));
    }

    /**
     * "the same calls": a round that has found all but one of the calls of that before is not as it. Function 1 is also
     * called with both types in each round, so that its call with one of them is only missing from a round on.
     */
    private static void fewerCalls() {
        for (int way = 0; way < 2; way++) {
            Worldage x = turning(2);
            int zero = x.node('n', 0, 0, 0);
            int both = x.node('?', 0, x.node('o', 4, 0, 0), x.node('o', 3, 0, 0));
            int body = x.node('y', TURNED, x.node('t', x.node('c', 1, both, -1), 0, 0), 0);
            x.define(x.prepare(2, 1, -1, way == 0 ? zero : 0));
            x.define(x.prepare(0, 1, -1, x.node('?', x.node('c', 2, 0, -1), body, x.node('t', zero, 0, 0))));
            int type = x.infer(0, 1, -1);
            CHECK.due(way == 0 ? "missing in the fourth" : "missing in the third", way == 0 ? 0 : x.union(4, 3), type);
        }
    }

    /** "if the fourth one has not, each call is 0, that which was asked for, too". */
    private static void eachCallIsAny() {
        Worldage x = new Worldage();
        int dog = x.named(0, true);
        int a = x.node('a', 0, 0, 0);
        int object = x.node('o', dog, a, 0);
        int self = x.node('c', 0, x.node('-', a, x.node('n', 1, 0, 0), 0), -1);
        x.define(x.prepare(0, 1, -1, x.node('?', a, x.node('x', self, 0, 0), object)));
        CHECK.due("boxes in boxes", 0, x.infer(0, 1, -1));
        x.define(x.prepare(1, 1, -1, x.node('y', object, x.node('f', self, 0, 0), 0)));
        CHECK.due("one that calls it, and has an object or an int", 0, x.infer(1, 1, -1));
        x.define(x.prepare(2, 1, -1, x.node('y', object, x.node('l', 0, a, -1), 0)));
        CHECK.due("l is 0 in any case", 0, x.infer(2, 1, -1));
        x.define(x.prepare(3, 1, -1, object));
        CHECK.due("one that does not call it", dog, x.infer(3, 1, -1));
    }
}
