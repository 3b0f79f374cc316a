/** The calls that README.md tells answer what it says. */
public final class ReadmeTest {
    private static final Check CHECK = new Check();
    private static final int NO = Integer.MIN_VALUE;

    public static void main(String[] args) {
        Worldage x = new Worldage();
        int animal = x.named(0, false);
        int dog = x.named(animal, true);
        int boxes = x.boxBelow(animal);
        CHECK.due("a dog is an animal", true, x.isBelow(dog, animal));
        CHECK.due("a box of a dog is met", true, x.meet(x.box(dog), boxes));
        int argument = x.node('a', 0, 0, 0);
        int one = x.node('n', 1, 0, 0);
        int sum = x.node('+', argument, one, 0);
        int object = x.node('o', dog, argument, 0);
        int call = x.node('c', 1, object, -1);
        int next = x.prepare(0, 1, -1, sum);
        int ofDogs = x.prepare(1, dog, -1, x.node('f', argument, 0, 0));
        int ofAnimals = x.prepare(1, animal, -1, one);
        int asDog = x.prepare(2, 1, -1, call);
        CHECK.due("define", 1, x.define(next));
        CHECK.due("define", 2, x.define(ofAnimals));
        CHECK.due("define", 3, x.define(asDog));
        CHECK.due("run", 'v', x.run(0, 41, NO, 100, false));
        CHECK.due("result", 42, x.result());
        CHECK.due("run", 'v', x.run(2, 7, NO, 100, true));
        CHECK.due("of all animals", 1, x.result());
        CHECK.due("codes", 2, x.codes());
        CHECK.due("fixed", 1, x.fixed(0));
        CHECK.due("define", 4, x.define(ofDogs));
        CHECK.due("stale", 2, x.stale());
        CHECK.due("run", 'v', x.run(2, 7, NO, 100, true));
        CHECK.due("of dogs", 7, x.result());
        CHECK.due("chosen at 3", ofAnimals, x.chosen(1, dog, -1, 3));
        CHECK.due("chosen at 4", ofDogs, x.chosen(1, dog, -1, 4));
        CHECK.due("ints", 1, x.infer(0, 1, -1));
        CHECK.due("ints", 1, x.infer(2, 1, -1));
        CHECK.due("unclear", 0, x.unclear(1));
        CHECK.due("takeAway", 5, x.takeAway(ofAnimals));
        CHECK.due("trim", 2, x.trim(2, 1, -1));
        CHECK.due("same", true, x.isSame(2, 7, NO, 100));
        CHECK.end();
    }
}
