import java.util.Random;

/** All promises: calls by chance, the same in each run of this test, answered by Worldage as by the model. */
public final class ModelTest {
    private static final int NO = Integer.MIN_VALUE;
    private static final String KINDS = "na+-*<?clofxudty";

    interface Answer {
        long give();
    }

    private final Random random;
    private final Check check;
    private final long seed;
    private final Worldage x = new Worldage();
    private final Model y = new Model();
    private int calls;
    private boolean isWrong;
    private final StringBuilder told = new StringBuilder();
    static long answers;
    static long[] ends = new long[128];

    ModelTest(long seed, Check check) {
        this.seed = seed;
        this.random = new Random(seed);
        this.check = check;
    }

    public static void main(String[] args) {
        Check check = new Check();
        long from = args.length > 0 ? Long.parseLong(args[0]) : 1;
        long to = args.length > 1 ? Long.parseLong(args[1]) : 1500;
        int wrong = 0;
        for (long seed = from; seed <= to && wrong < 3; seed++) {
            ModelTest test = new ModelTest(seed, check);
            test.go();
            test.replay();
            wrong += test.isWrong ? 1 : 0;
        }
        System.out.println(answers + " answers; ends of runs: v " + ends['v'] + " n " + ends['n'] + " a " + ends['a']
                + " t " + ends['t'] + " e " + ends['e'] + " s " + ends['s']);
        check.end();
    }

    private void replay() {
        String other = isWrong ? null : Replay.firstOther(told.toString());
        if (other != null) {
            isWrong = true;
            check.tell("seed " + seed + ": " + other);
        }
    }

    private static String told(Answer answer) {
        try {
            return Long.toString(answer.give());
        } catch (RuntimeException e) {
            return "throws." + e.getClass().getSimpleName();
        }
    }

    private String same(String what, Answer mine, Answer due) {
        if (isWrong || calls >= 512) {
            return "";
        }
        calls++;
        answers++;
        String a = told(mine);
        String b = told(due);
        told.append(what).append(" -> ").append(b).append('\n');
        if (!a.equals(b)) {
            isWrong = true;
            check.tell("seed " + seed + ", call " + calls + ": " + what + " due " + b + ", answered " + a);
            if (System.getProperty("tell") != null) {
                System.out.println(told);
            }
        }
        return b;
    }

    private int upTo(int n) {
        return random.nextInt(n);
    }

    private boolean isChance(int percent) {
        return random.nextInt(100) < percent;
    }

    private void go() {
        if (seed % 10 == 0) {
            goRound();
        } else {
            goAnyWay();
        }
    }

    private void goAnyWay() {
        int style = upTo(4);
        int typeCalls = 4 + upTo(style == 0 ? 60 : 14);
        for (int i = 0; i < typeCalls; i++) {
            makeType();
        }
        leaves();
        int nodeCalls = 10 + upTo(style == 1 ? 110 : 40);
        for (int i = 0; i < nodeCalls; i++) {
            makeNode();
        }
        for (int i = upTo(6); i > 0; i--) {
            makePattern();
        }
        int methodCalls = 6 + upTo(style == 2 ? 40 : 16);
        for (int i = 0; i < methodCalls; i++) {
            makeMethod();
            if (isChance(75)) {
                define();
            }
        }
        int rest = 60 + upTo(300);
        boolean isRestless = isChance(15);
        for (int i = 0; i < rest && !isWrong; i++) {
            if (isRestless && isChance(80)) {
                turnOne();
            } else {
                callByChance();
            }
        }
    }

    /**
     * Functions 0 to 2 call themselves with less, and what they have goes on through 3 and 4, from one kind of objects
     * to the next; 5 tells kinds from each other. So what is found for a call can grow for more rounds than there are.
     */
    private void goRound() {
        int[] kinds = makeKinds(4 + upTo(4));
        node('a', 0, 0, 0);
        node('n', 1, 0, 0);
        node('-', 0, 1, 0);
        int[] objects = new int[kinds.length];
        for (int i = 0; i < kinds.length; i++) {
            node('o', kinds[i], 1, 0);
            objects[i] = last();
        }
        for (int i = 0; i < kinds.length; i++) {
            makeStep(3, kinds[i], objects, i + 1);
            makeStep(4, kinds[i], objects, i + 1 + upTo(2));
            if (isChance(30)) {
                method(5, kinds[i], upTo(3));
            }
        }
        method(5, isChance(80) ? 3 : upTo(y.types.size()), 1);
        for (int function = 0; function < 3; function++) {
            makeRound(function, objects);
        }
        for (int i = 0; i < 2; i++) {
            node('c', upTo(3), 0, -1);
            through(1 + upTo(3), 5);
            method(upTo(3), 1, last());
        }
        for (int i = 0; i < 30 && !isWrong; i++) {
            askRound();
        }
    }

    /** Most of them have the parent 3, the last ones do not. */
    private int[] makeKinds(int count) {
        int[] kinds = new int[count];
        same("named(0,false)", () -> x.named(0, false), () -> y.named(0, false));
        for (int i = 0; i < count; i++) {
            int parent = isChance(90) == i < count - 2 ? 3 : 0;
            kinds[i] = y.types.size();
            same("named(" + parent + ",true)", () -> x.named(parent, true), () -> y.named(parent, true));
        }
        for (int i = upTo(6); i > 0; i--) {
            makeType();
        }
        return kinds;
    }

    private void makeStep(int function, int kind, int[] objects, int next) {
        int to = isChance(95) ? objects[Math.min(next, objects.length - 1)] : aNode();
        if (isChance(5)) {
            node('x', to, 0, 0);
            to = last();
        }
        if (isChance(95)) {
            method(function, kind, to);
        }
    }

    private void makeRound(int function, int[] objects) {
        int body = objects[isChance(70) ? 0 : upTo(objects.length)];
        for (int i = upTo(2); i >= 0; i--) {
            node('c', isChance(70) ? function : upTo(3), 2, -1);
            through(1 + upTo(2), 3 + upTo(2));
            int done = last();
            if (isChance(30)) {
                node('y', done, body, 0);
                done = last();
            }
            node('?', isChance(80) ? 0 : upTo(3), done, body);
            body = last();
        }
        method(function, isChance(80) ? 1 : 0, body);
    }

    private void through(int steps, int function) {
        for (int i = 0; i < steps; i++) {
            int n = last();
            if (isChance(85)) {
                node('c', function, n, -1);
            } else {
                node(isChance(50) ? 'x' : 'u', n, 0, 0);
            }
        }
    }

    private void method(int function, int first, int body) {
        int m = y.methods.size();
        same("prepare(" + function + "," + first + ",-1," + body + ")", () -> x.prepare(function, first, -1, body),
                () -> y.prepare(function, first, -1, body));
        same("define(" + m + ")", () -> x.define(m), () -> y.define(m));
    }

    private void askRound() {
        int function = upTo(3);
        int n = upTo(8);
        int type = isChance(50) ? 1 : upTo(y.types.size());
        int m = aMethod();
        switch (upTo(6)) {
            case 0: case 1:
                isSame(function, n, NO, 1000);
                break;
            case 2: case 3:
                run(function, n, NO, 1000, isChance(70));
                break;
            case 4:
                if (isChance(20)) {
                    same("takeAway(" + m + ")", () -> x.takeAway(m), () -> y.takeAway(m));
                } else if (isChance(30)) {
                    same("define(" + m + ")", () -> x.define(m), () -> y.define(m));
                }
                break;
            default:
                same("trim(" + function + "," + type + ",-1)", () -> x.trim(function, type, -1),
                        () -> y.trim(function, type, -1));
                same("infer(" + function + "," + type + ",-1)", () -> x.infer(function, type, -1),
                        () -> y.infer(function, type, -1));
        }
        askCodes();
        askCodes();
    }

    /** Lets a method come or go, and needs code after that. */
    private void turnOne() {
        int m = upTo(Math.max(1, y.methods.size()));
        if (m < y.methods.size() && y.isNow(m)) {
            same("takeAway(" + m + ")", () -> x.takeAway(m), () -> y.takeAway(m));
        } else {
            same("define(" + m + ")", () -> x.define(m), () -> y.define(m));
        }
        int function = upTo(2);
        int n = anInt();
        same("run(" + function + "," + n + ",none,60,true)", () -> x.run(function, n, NO, 60, true),
                () -> y.run(function, n, NO, 60, true));
        same("codes()", x::codes, y.codes::size);
    }

    private int last() {
        return y.nodes.size() - 1;
    }

    /** Bodies as programs have them: calls of oneself with less, boxes that grow, definitions ahead of calls. */
    private void makePattern() {
        int function = upTo(3);
        if (y.nodes.size() < 6 || y.nodes.size() > 100) {
            return;
        }
        node('c', upTo(3), isChance(50) ? 4 : upTo(y.nodes.size()), -1);
        int call = last();
        switch (upTo(6)) {
            case 0:
                node('+', call, aNode(), 0);
                break;
            case 1:
                node('x', call, 0, 0);
                break;
            case 2:
                node('d', upTo(10), 0, 0);
                node('+', last(), call, 0);
                break;
            case 3:
                node('d', upTo(10), 0, 0);
                node('y', last(), 2, 0);
                node('+', last(), call, 0);
                node('c', function, last(), -1);
                break;
            case 4:
                node('o', aType(), 0, 0);
                node('c', function, last(), -1);
                node('y', last(), call, 0);
                break;
            default:
                node('u', call, 0, 0);
        }
        int done = last();
        node('?', isChance(50) ? 0 : 5, done, aNode());
        if (isChance(50)) {
            node('?', 5, aNode(), done);
        }
        int body = last();
        int first = isChance(50) ? 1 : isChance(50) ? 0 : aType();
        same("prepare(" + function + "," + first + ",-1," + body + ")", () -> x.prepare(function, first, -1, body),
                () -> y.prepare(function, first, -1, body));
        int m = y.methods.size() - 1;
        same("define(" + m + ")", () -> x.define(m), () -> y.define(m));
    }

    private int aType() {
        int n = y.types.size();
        return isChance(3) ? upTo(70) - 5 : isChance(35) ? 1 : isChance(20) ? 0 : upTo(n);
    }

    private int aSecondType() {
        return isChance(60) ? -1 : aType();
    }

    private int aFunction() {
        return isChance(2) ? upTo(10) - 2 : isChance(70) ? upTo(2) : upTo(6);
    }

    private int aNode() {
        int n = Math.max(1, y.nodes.size());
        return isChance(2) ? upTo(130) - 5 : isChance(60) ? n - 1 - upTo(Math.min(n, 12)) : upTo(n);
    }

    private int aMethod() {
        int n = Math.max(1, y.methods.size());
        return isChance(3) ? upTo(45) - 2 : upTo(n);
    }

    private int anInt() {
        return isChance(3) ? random.nextInt() : upTo(7) - 2;
    }

    private int anAge() {
        return isChance(4) ? upTo(8) - 4 : isChance(40) ? y.now() : upTo(y.now() + 2);
    }

    private void makeType() {
        int a = aType();
        int b = aType();
        int n = anInt();
        boolean isConcrete = isChance(60);
        switch (upTo(8)) {
            case 0: case 1: {
                int parent = isChance(50) ? 0 : a;
                same("named(" + parent + "," + isConcrete + ")", () -> x.named(parent, isConcrete),
                        () -> y.named(parent, isConcrete));
                break;
            }
            case 2: case 3:
                same("ofInt(" + n + ")", () -> x.ofInt(n), () -> y.ofInt(n));
                break;
            case 4:
                same("box(" + a + ")", () -> x.box(a), () -> y.box(a));
                break;
            case 5:
                same("boxBelow(" + a + ")", () -> x.boxBelow(a), () -> y.boxBelow(a));
                break;
            default:
                same("union(" + a + "," + b + ")", () -> x.union(a, b), () -> y.union(a, b));
        }
    }

    private void node(char kind, int a, int b, int c) {
        same("node('" + kind + "'," + a + "," + b + "," + c + ")", () -> x.node(kind, a, b, c),
                () -> y.node(kind, a, b, c));
    }

    private void leaves() {
        node('a', 0, 0, 0);
        node('a', 1, 0, 0);
        node('n', 1, 0, 0);
        node('n', 2, 0, 0);
        node('-', 0, 2, 0);
        node('<', 0, 3, 0);
    }

    private void makeNode() {
        int a = aNode();
        int b = aNode();
        int c = aNode();
        if (isChance(3)) {
            node(isChance(30) ? (char) upTo(300) : KINDS.charAt(upTo(KINDS.length())), upTo(60) - 5, b, c);
            return;
        }
        char kind = isChance(35) ? 'c' : KINDS.charAt(upTo(KINDS.length()));
        switch (kind) {
            case 'n':
                node(kind, anInt(), 0, 0);
                break;
            case 'a':
                node(kind, upTo(2), 0, 0);
                break;
            case 'd':
                node(kind, upTo(isChance(10) ? 42 : 14), 0, 0);
                break;
            case 'c': case 'l':
                node(kind, aFunction(), b, isChance(60) ? -1 : c);
                break;
            case 'o':
                node(kind, aType(), b, 0);
                break;
            default:
                node(kind, a, b, c);
        }
    }

    private void makeMethod() {
        int function = aFunction();
        int first = aType();
        int second = aSecondType();
        int body = isChance(70) ? Math.max(0, y.nodes.size() - 1 - upTo(40)) : aNode();
        same("prepare(" + function + "," + first + "," + second + "," + body + ")",
                () -> x.prepare(function, first, second, body), () -> y.prepare(function, first, second, body));
    }

    private void define() {
        int m = isChance(50) ? y.methods.size() - 1 : aMethod();
        same("define(" + m + ")", () -> x.define(m), () -> y.define(m));
    }

    private void callByChance() {
        int m = aMethod();
        int age = anAge();
        int function = aFunction();
        int first = aType();
        int second = aSecondType();
        switch (upTo(24)) {
            case 0:
                if (isChance(20)) {
                    makeType();
                } else {
                    makeMethod();
                }
                break;
            case 1: case 2:
                define();
                break;
            case 3:
                same("takeAway(" + m + ")", () -> x.takeAway(m), () -> y.takeAway(m));
                break;
            case 4:
                same("isThere(" + m + "," + age + ")", () -> x.isThere(m, age) ? 1 : 0,
                        () -> y.isThere(m, age) ? 1 : 0);
                break;
            case 5: case 6:
                same("chosen(" + function + "," + first + "," + second + "," + age + ")",
                        () -> x.chosen(function, first, second, age), () -> y.chosen(function, first, second, age));
                break;
            case 7:
                same("unclear(" + function + ")", () -> x.unclear(function), () -> y.unclear(function));
                break;
            case 8: case 9: case 10:
                same("infer(" + function + "," + first + "," + second + ")",
                        () -> x.infer(function, first, second), () -> y.infer(function, first, second));
                break;
            case 11: case 12:
                same("trim(" + function + "," + first + "," + second + ")",
                        () -> x.trim(function, first, second), () -> y.trim(function, first, second));
                break;
            case 13:
                askTypes();
                break;
            case 14: case 15:
                isSame();
                break;
            default:
                run();
        }
        if (isChance(30)) {
            askCodes();
        }
    }

    private void askTypes() {
        int a = aType();
        int b = aType();
        same("isBelow(" + a + "," + b + ")", () -> x.isBelow(a, b) ? 1 : 0, () -> y.isBelow(a, b) ? 1 : 0);
        same("meet(" + a + "," + b + ")", () -> x.meet(a, b) ? 1 : 0, () -> y.meet(a, b) ? 1 : 0);
        same("meet(" + b + "," + a + ")", () -> x.meet(b, a) ? 1 : 0, () -> y.meet(b, a) ? 1 : 0);
        same("types()", x::types, y.types::size);
    }

    private int aLimit() {
        return isChance(5) ? upTo(3) * 500 + upTo(3) - 1 : isChance(50) ? 1000 : 1 + upTo(100);
    }

    private void isSame() {
        isSame(aFunction(), anInt(), isChance(50) ? NO : anInt(), aLimit());
    }

    private void isSame(int function, int first, int second, int limit) {
        String is = same("isSame(" + function + "," + first + "," + second + "," + limit + ")",
                () -> x.isSame(function, first, second, limit) ? 1 : 0,
                () -> y.isSame(function, first, second, limit) ? 1 : 0);
        if (is.equals("0")) {
            isWrong = true;
            check.tell("seed " + seed + ": with code and without is not the same");
        }
    }

    private void run() {
        run(aFunction(), anInt(), isChance(50) ? NO : anInt(), aLimit(), isChance(65));
    }

    private void run(int function, int first, int second, int limit, boolean isByCode) {
        Model.T type = y.inferred(new Model.Call(function, y.ints, second == NO ? null : y.ints));
        Model.T narrow = y.inferred(new Model.Call(function, one(first), second == NO ? null : one(second)));
        String end = same("run(" + function + "," + first + "," + second + "," + limit + "," + isByCode + ")",
                () -> x.run(function, first, second, limit, isByCode),
                () -> y.run(function, first, second, limit, isByCode));
        if (!end.isEmpty() && !end.startsWith("throws")) {
            ends[Integer.parseInt(end)]++;
            if (y.runEnd == 'v' && !(y.isOf(y.runValue, type) && y.isOf(y.runValue, narrow))) {
                isWrong = true;
                check.tell("seed " + seed + ": the value is not of the type that was inferred");
            }
        }
        same("lookups()", x::lookups, () -> y.lookups);
        if (isByCode) {
            same("taken()", x::taken, () -> y.taken);
        }
        same("steps()", x::steps, () -> y.steps);
        if (isChance(50)) {
            same("result()", x::result, y::result);
        }
        if (isChance(40)) {
            same("resultType()", x::resultType, y::resultType);
        }
        if (isChance(10)) {
            same("allSteps()", x::allSteps, () -> y.allSteps);
        }
        if (isChance(30)) {
            same("age()", x::age, y::age);
        }
    }

    private static Model.T one(int n) {
        return new Model.T('s', n, null, null);
    }

    private void askCodes() {
        int n = Math.max(1, y.codes.size());
        int code = isChance(4) ? upTo(70) - 4 : n - 1 - upTo(Math.min(n, 8));
        switch (upTo(7)) {
            case 0:
                same("codes()", x::codes, y.codes::size);
                break;
            case 1:
                same("stale()", x::stale, y::stale);
                break;
            case 2:
                same("edges(" + code + ")", () -> x.edges(code), () -> y.edges(code));
                break;
            case 3:
                same("fixed(" + code + ")", () -> x.fixed(code), () -> y.fixed(code));
                break;
            case 4:
                same("methodOf(" + code + ")", () -> x.methodOf(code), () -> y.methodOf(code));
                break;
            case 5:
                same("fixedShare()", () -> Float.floatToIntBits(x.fixedShare()),
                        () -> Float.floatToIntBits(y.fixedShare()));
                break;
            default:
                same("meanEdges()", () -> Double.doubleToLongBits(x.meanEdges()),
                        () -> Double.doubleToLongBits(y.meanEdges()));
        }
    }
}
