/** Promise 1: a new object. */
public final class NewObjectTest {
    public static void main(String[] args) {
        Check check = new Check();
        Worldage x = new Worldage();
        check.due("types", 3, x.types());
        check.due("age", 0, x.age());
        check.due("codes", 0, x.codes());
        check.due("stale", 0, x.stale());
        check.due("lookups", 0, x.lookups());
        check.due("taken", 0, x.taken());
        check.due("steps", 0, x.steps());
        check.due("allSteps", 0, x.allSteps());
        check.throwing("result", java.util.NoSuchElementException.class, x::result);
        check.throwing("resultType", java.util.NoSuchElementException.class, x::resultType);
        check.throwing("define", java.util.NoSuchElementException.class, () -> x.define(0));
        check.throwing("isThere", java.util.NoSuchElementException.class, () -> x.isThere(0, 0));
        check.throwing("edges", IndexOutOfBoundsException.class, () -> x.edges(0));
        check.throwing("meanEdges", ArithmeticException.class, x::meanEdges);
        check.throwing("fixedShare", ArithmeticException.class, x::fixedShare);
        check.due("run", 'n', x.run(0, 1, Integer.MIN_VALUE, 1, false));
        check.due("unclear", 0, x.unclear(5));
        Worldage other = new Worldage();
        x.named(0, true);
        check.due("objects are apart", 3, other.types());
        check.end();
    }
}
