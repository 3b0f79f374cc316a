import java.util.Arrays;
import java.util.NoSuchElementException;

/** A language of functions with many methods, one of which is chosen by all arguments. */
public final class Worldage {
    private static final int MOST_TYPES = 60;
    private static final int MOST_NODES = 120;
    private static final int MOST_METHODS = 40;
    private static final int MOST_CODES = 60;
    private static final int MOST_CALLS = 20;
    private static final int MOST_STEPS = 1000;
    private static final int FUNCTIONS = 6;
    private static final long NONE_GIVEN = -1;
    private static final int NO_SECOND_INT = -2147483648;

    private final Types types = new Types();
    private final Nodes nodes = new Nodes();
    private final Book book = new Book(types);
    private final Inferring inferring = new Inferring(types, nodes, book);
    private final Codes codes = new Codes(types, nodes, book);
    private final Machine machine = new Machine(types, nodes, book, inferring, codes);
    private final Trimmer trimmer = new Trimmer(types, nodes, book, inferring, codes);

    private int lastOutcome = Machine.GOING;
    private int lastInt;
    private int lastLookups;
    private int lastTaken;
    private int lastSteps;
    private long stepsOfAll;

    public Worldage() {
    }

    public int named(int parent, boolean isConcrete)
            throws NoSuchElementException, IllegalArgumentException, IllegalStateException {
        needType(parent);
        if (!types.canBeParent(types.ids[parent])) {
            throw new IllegalArgumentException("The parent is neither 0 nor a named type that is not concrete.");
        }
        if (types.numbered >= MOST_TYPES) {
            throw new IllegalStateException("There are 60 types.");
        }
        return types.addNamed(types.ids[parent], isConcrete);
    }

    public int ofInt(int n) throws IllegalStateException {
        return numberOrRefuse(Types.one(n));
    }

    public int box(int type) throws NoSuchElementException, IllegalArgumentException, IllegalStateException {
        needType(type);
        needRoomAbove(types.ids[type]);
        return numberOrRefuse(types.put(Types.JUST, types.ids[type], 0));
    }

    public int boxBelow(int type) throws NoSuchElementException, IllegalArgumentException, IllegalStateException {
        needType(type);
        needRoomAbove(types.ids[type]);
        return numberOrRefuse(types.put(Types.BELOW, types.ids[type], 0));
    }

    public int union(int first, int second)
            throws NoSuchElementException, IllegalArgumentException, IllegalStateException {
        needType(first);
        needType(second);
        needRoomAbove(types.ids[first]);
        needRoomAbove(types.ids[second]);
        return numberOrRefuse(types.put(Types.UNION, types.ids[first], types.ids[second]));
    }

    public int types() {
        return types.numbered;
    }

    public boolean isBelow(int type, int other) throws NoSuchElementException {
        needType(type);
        needType(other);
        return types.below(types.ids[type], types.ids[other]);
    }

    public boolean meet(int type, int other) throws NoSuchElementException {
        needType(type);
        needType(other);
        return types.meeting(types.ids[type], types.ids[other]);
    }

    public int node(char kind, int a, int b, int c)
            throws IllegalArgumentException, NoSuchElementException, IllegalStateException {
        int first = kind == 'o' ? types.concreteNamed(a) : a;
        if (!nodes.isKind(kind) || !nodes.isInRange(kind, first)) {
            throw new IllegalArgumentException("There is no such kind, or an operand is out of range.");
        }
        if (!nodes.hasOperands(kind, a, b, c)) {
            throw new NoSuchElementException("There is no such node.");
        }
        int depth = nodes.depthOver(kind, a, b, c);
        if (nodes.size >= MOST_NODES || depth > Nodes.DEEPEST) {
            throw new IllegalStateException("There are 120 nodes, or it would be too deep.");
        }
        return nodes.add(kind, first, b, c, depth);
    }

    public int prepare(int function, int first, int second, int body)
            throws IllegalArgumentException, NoSuchElementException, IllegalStateException {
        needFunction(function);
        needArguments(first, second);
        if (body < 0 || body >= nodes.size) {
            throw new NoSuchElementException("There is no such node.");
        }
        if (book.size >= MOST_METHODS) {
            throw new IllegalStateException("There are 40 methods.");
        }
        return book.add(function, types.ids[first], idOrNone(second), body);
    }

    public int define(int method) throws NoSuchElementException, IllegalStateException {
        needMethod(method);
        if (book.isPresent(method, book.now)) {
            throw new IllegalStateException("It is there.");
        }
        book.bring(method);
        codes.spoil(method);
        return book.now;
    }

    public int takeAway(int method) throws NoSuchElementException, IllegalStateException {
        needMethod(method);
        if (!book.isPresent(method, book.now)) {
            throw new IllegalStateException("It is not there.");
        }
        book.drop(method);
        codes.spoil(method);
        return book.now;
    }

    public int age() {
        return book.now;
    }

    public boolean isThere(int method, int age) throws NoSuchElementException, IllegalArgumentException {
        needMethod(method);
        if (age < 0 || age > book.now) {
            throw new IllegalArgumentException("There is no such age.");
        }
        return book.isPresent(method, age);
    }

    public int chosen(int function, int first, int second, int age)
            throws IllegalArgumentException, NoSuchElementException, UnsupportedOperationException {
        needFunction(function);
        if (age < 0 || age > book.now) {
            throw new IllegalArgumentException("There is no such age.");
        }
        needArguments(first, second);
        long firstId = types.ids[first];
        long secondId = idOrNone(second);
        if (!types.isOfValues(firstId) || (secondId >= 0 && !types.isOfValues(secondId))) {
            throw new UnsupportedOperationException("A type is none of values.");
        }
        return book.bestOf(book.matchingTypes(function, firstId, secondId, age));
    }

    public int unclear(int function) throws IllegalArgumentException {
        needFunction(function);
        return book.unclearPairs(function);
    }

    public int infer(int function, int first, int second)
            throws IllegalArgumentException, NoSuchElementException, UnsupportedOperationException {
        needFunction(function);
        needArguments(first, second);
        sweepTypes();
        int number = types.numberFor(inferring.settle(function, types.ids[first], idOrNone(second)));
        if (number < 0) {
            throw new UnsupportedOperationException("There would be more than 60 types.");
        }
        return number;
    }

    public char run(int function, int first, int second, int steps, boolean isByCode)
            throws IllegalArgumentException {
        needFunction(function);
        needSteps(steps);
        machine.go(function, first, second, steps, isByCode, false);
        lastOutcome = machine.outcome;
        types.ofLastRun = machine.endType;
        lastInt = machine.endInt;
        lastLookups = machine.lookupCount;
        lastTaken = machine.takenCount;
        lastSteps = machine.stepCount;
        stepsOfAll += machine.stepCount;
        return (char) machine.outcome;
    }

    public int result() throws NoSuchElementException {
        if (lastOutcome != 'v' && lastOutcome != 't') {
            throw new NoSuchElementException("The last run ended otherwise, or there was none.");
        }
        return lastInt;
    }

    public int resultType() throws NoSuchElementException, IllegalStateException {
        if (lastOutcome != 'v') {
            throw new NoSuchElementException("The last run had no value, or there was none.");
        }
        return numberOrRefuse(types.ofLastRun);
    }

    public int lookups() {
        return lastLookups;
    }

    public int taken() {
        return lastTaken;
    }

    public int steps() {
        return lastSteps;
    }

    public long allSteps() {
        return stepsOfAll;
    }

    public int codes() {
        return codes.size;
    }

    public int stale() {
        return codes.countStale();
    }

    public int edges(int code) throws IndexOutOfBoundsException {
        needCode(code);
        return codes.edgeCounts[code];
    }

    public int fixed(int code) throws IndexOutOfBoundsException {
        needCode(code);
        return codes.fixedCounts[code];
    }

    public int methodOf(int code) throws IndexOutOfBoundsException {
        needCode(code);
        return codes.methods[code];
    }

    public int trim(int function, int first, int second)
            throws IllegalArgumentException, NoSuchElementException, UnsupportedOperationException {
        needFunction(function);
        needArguments(first, second);
        sweepTypes();
        int count = trimmer.countFrom(function, types.ids[first], idOrNone(second));
        if (count < 0) {
            throw new UnsupportedOperationException("A call has no fixed method, or a body has a node l or d.");
        }
        return count;
    }

    public boolean isSame(int function, int first, int second, int steps) throws IllegalArgumentException {
        needFunction(function);
        needSteps(steps);
        machine.go(function, first, second, steps, true, true);
        int outcome = machine.outcome;
        long endType = machine.endType;
        int endInt = machine.endInt;
        machine.go(function, first, second, steps, false, true);
        if (isCutShort(outcome) || isCutShort(machine.outcome)) {
            return true;
        }
        return outcome == machine.outcome && endType == machine.endType && endInt == machine.endInt;
    }

    public float fixedShare() throws ArithmeticException {
        int all = codes.sumOf(codes.callCounts);
        if (all == 0) {
            throw new ArithmeticException("There are no nodes c in codes.");
        }
        return (float) codes.sumOf(codes.fixedCounts) / (float) all;
    }

    public double meanEdges() throws ArithmeticException {
        if (codes.size == 0) {
            throw new ArithmeticException("There are no codes.");
        }
        return (double) codes.sumOf(codes.edgeCounts) / (double) codes.size;
    }

    private static boolean isCutShort(int outcome) {
        return outcome == 's' || outcome == Machine.AT_DEFINE;
    }

    private int numberOrRefuse(long type) {
        int number = types.numberFor(type);
        if (number < 0) {
            throw new IllegalStateException("There would be more than 60 types.");
        }
        return number;
    }

    private long idOrNone(int type) {
        return type < 0 ? NONE_GIVEN : types.ids[type];
    }

    private void needType(int type) {
        if (type < 0 || type >= types.numbered) {
            throw new NoSuchElementException("There is no such type.");
        }
    }

    private void needArguments(int first, int second) {
        needType(first);
        if (second != NONE_GIVEN) {
            needType(second);
        }
    }

    private void needRoomAbove(long type) {
        if (types.depthOf(type) >= Types.DEEPEST) {
            throw new IllegalArgumentException("It would be too deep.");
        }
    }

    private void needFunction(int function) {
        if (function < 0 || function >= FUNCTIONS) {
            throw new IllegalArgumentException("There is no such function.");
        }
    }

    private void needMethod(int method) {
        if (method < 0 || method >= book.size) {
            throw new NoSuchElementException("There is no such method.");
        }
    }

    private void needSteps(int steps) {
        if (steps < 1 || steps > MOST_STEPS) {
            throw new IllegalArgumentException("The steps are out of range.");
        }
    }

    /** Lets go of the types that inferring has made and nothing needs any more. */
    private void sweepTypes() {
        if (types.isCrowded()) {
            types.beginSweep();
            codes.markTypes();
            types.endSweep();
        }
    }

    private void needCode(int code) {
        if (code < 0 || code >= codes.size) {
            throw new IndexOutOfBoundsException("There is no such code.");
        }
    }

    /**
     * The types. One of one int is told by a bit of its own and the int; each other one has a place in a table, which
     * lies in pieces that are made when they are needed and never copied. Inferring and running make types that no
     * call has returned yet: only those that were returned have numbers.
     */
    private static final class Types {
        static final long ANY = 0;
        static final long INT = 1;
        static final long NONE = 2;
        static final int DEEPEST = 4;

        /** The kinds of types; ANY, INT and NONE are given. */
        private static final int GIVEN = 0;
        static final int NAMED = 1;
        static final int ONE = 2;
        static final int JUST = 3;
        static final int BELOW = 4;
        static final int UNION = 5;

        private static final long ONES = 1L << 32;
        /** What is added to the kind of a type while it is marked. */
        private static final int MARK = 16;
        private static final int BUILT_IN = 3;
        private static final int SHIFT = 10;
        private static final int PIECE = 1 << SHIFT;
        private static final int IN_PIECE = PIECE - 1;
        private static final int MOST_PIECES = 1 << 10;
        private static final int MOST_PLACES = MOST_PIECES * PIECE;
        private static final int MOST_INFERRED = MOST_PLACES - 2048;
        private static final int MANY_MORE = 4096;
        private static final int TYPES_A_BUCKET = 4;

        private int[] heads = new int[256];
        private final int[][] nexts = new int[MOST_PIECES][];
        private final int[][] hashes = new int[MOST_PIECES][];
        private final int[][] kinds = new int[MOST_PIECES][];
        private final long[][] firsts = new long[MOST_PIECES][];
        private final long[][] seconds = new long[MOST_PIECES][];
        private int size;
        private int firstFree = -1;
        private int used;
        private int usedBefore;
        final long[] ids = new long[MOST_TYPES];
        int numbered = BUILT_IN;
        long ofLastRun = ANY;
        /** Inferring leaves room for the types that calls and runs make. */
        boolean isInferring;
        /** Tells that a type had no room; who wants to know sets it back before. */
        boolean hasRunOut;

        Types() {
            Arrays.fill(heads, -1);
            for (int type = 0; type < BUILT_IN; type++) {
                ids[type] = put(GIVEN, ANY, type);
            }
        }

        static long one(int n) {
            return ONES | n & (ONES - 1);
        }

        /** Returns the type that is made so; ANY, which is above all, if there is no more room. */
        long put(int kind, long first, long second) {
            long mixed = (first * 31 + kind) * 0x9E3779B97F4A7C15L ^ second * 0xC2B2AE3D27D4EB4FL;
            int hash = (int) (mixed >>> 40);
            int bucket = hash & (heads.length - 1);
            int id = heads[bucket];
            for (int left = size; id >= 0 && left > 0; left--) {
                int piece = id >> SHIFT;
                int place = id & IN_PIECE;
                if (kinds[piece][place] == kind && firsts[piece][place] == first && seconds[piece][place] == second) {
                    return id;
                }
                id = nexts[piece][place];
            }
            if (used >= (isInferring ? MOST_INFERRED : MOST_PLACES)) {
                hasRunOut = true;
                return ANY;
            }
            used++;
            id = firstFree;
            if (id >= 0) {
                firstFree = nexts[id >> SHIFT][id & IN_PIECE];
            } else {
                id = size;
                size++;
            }
            int piece = id >> SHIFT;
            int place = id & IN_PIECE;
            if (kinds[piece] == null) {
                nexts[piece] = new int[PIECE];
                hashes[piece] = new int[PIECE];
                kinds[piece] = new int[PIECE];
                firsts[piece] = new long[PIECE];
                seconds[piece] = new long[PIECE];
            }
            kinds[piece][place] = kind;
            firsts[piece][place] = first;
            seconds[piece][place] = second;
            hashes[piece][place] = hash;
            nexts[piece][place] = heads[bucket];
            heads[bucket] = id;
            return id;
        }

        /** Keeps the search in put() short, if it is called now and then while many types are made. */
        void spread() {
            if (used <= TYPES_A_BUCKET * heads.length) {
                return;
            }
            int[] fewer = heads;
            heads = new int[TYPES_A_BUCKET * fewer.length];
            Arrays.fill(heads, -1);
            for (int index = 0; index < fewer.length; index++) {
                int id = fewer[index];
                for (int left = size; id >= 0 && left > 0; left--) {
                    int next = nexts[id >> SHIFT][id & IN_PIECE];
                    int bucket = hashes[id >> SHIFT][id & IN_PIECE] & (heads.length - 1);
                    nexts[id >> SHIFT][id & IN_PIECE] = heads[bucket];
                    heads[bucket] = id;
                    id = next;
                }
            }
        }

        private int kindOf(long type) {
            return type >= ONES ? ONE : kinds[(int) type >> SHIFT][(int) type & IN_PIECE];
        }

        /** Returns the parent, or the first one that a type is made of; not for one of one int. */
        private long firstOf(long type) {
            return firsts[(int) type >> SHIFT][(int) type & IN_PIECE];
        }

        private long secondOf(long type) {
            return seconds[(int) type >> SHIFT][(int) type & IN_PIECE];
        }

        int depthOf(long type) {
            if (type >= ONES) {
                return 1;
            }
            int kind = kinds[(int) type >> SHIFT][(int) type & IN_PIECE];
            if (kind < JUST) {
                return 0;
            }
            int depth = depthOf(firsts[(int) type >> SHIFT][(int) type & IN_PIECE]);
            int other = kind == UNION ? depthOf(seconds[(int) type >> SHIFT][(int) type & IN_PIECE]) : 0;
            return 1 + Math.max(depth, other);
        }

        /** Tells whether many types have been made since the last time that types were let go, for the room left. */
        boolean isCrowded() {
            int many = Math.min(usedBefore + MANY_MORE, (MOST_INFERRED - usedBefore) / 2);
            return used > usedBefore + Math.max(many, MANY_MORE);
        }

        /** After this each type that is needed is to be marked; those with numbers are already. */
        void beginSweep() {
            for (int number = 0; number < numbered; number++) {
                mark(ids[number]);
            }
            mark(ofLastRun);
        }

        void mark(long type) {
            if (type < 0 || type >= ONES || kindOf(type) >= MARK) {
                return;
            }
            int kind = kindOf(type);
            kinds[(int) type >> SHIFT][(int) type & IN_PIECE] = kind + MARK;
            if (kind >= JUST) {
                mark(firstOf(type));
            }
            if (kind == UNION) {
                mark(secondOf(type));
            }
        }

        /** Lets go of the types that are not marked: their places can be taken by others. */
        void endSweep() {
            used = 0;
            for (int bucket = 0; bucket < heads.length; bucket++) {
                int id = heads[bucket];
                heads[bucket] = -1;
                for (int left = size; id >= 0 && left > 0; left--) {
                    int piece = id >> SHIFT;
                    int place = id & IN_PIECE;
                    int next = nexts[piece][place];
                    if (kinds[piece][place] >= MARK) {
                        kinds[piece][place] -= MARK;
                        nexts[piece][place] = heads[bucket];
                        heads[bucket] = id;
                        used++;
                    } else {
                        nexts[piece][place] = firstFree;
                        firstFree = id;
                    }
                    id = next;
                }
            }
            usedBefore = used;
        }

        /** Named types with the same parent are not the same, so that each is kept by its own number. */
        int addNamed(long parent, boolean isConcrete) {
            int number = numbered;
            return numberFor(put(NAMED, parent, isConcrete ? -1 - number : number));
        }

        boolean canBeParent(long type) {
            return type == ANY || (kindOf(type) == NAMED && secondOf(type) >= 0);
        }

        private boolean isConcrete(long type) {
            return kindOf(type) == NAMED && secondOf(type) < 0;
        }

        /** Returns the place of the type with this number, if it is a concrete named one, otherwise -1. */
        int concreteNamed(int number) {
            if (number < 0 || number >= numbered || !isConcrete(ids[number])) {
                return -1;
            }
            return (int) ids[number];
        }

        boolean isOfValues(long type) {
            long inner = type;
            for (int depth = 0; depth < DEEPEST && kindOf(inner) == JUST; depth++) {
                inner = firstOf(inner);
            }
            return inner == INT || isConcrete(inner);
        }

        boolean isObject(long type) {
            return kindOf(type) == NAMED;
        }

        boolean isOneInt(long type) {
            return type >= ONES;
        }

        int intOf(long oneInt) {
            return (int) oneInt;
        }

        boolean isBox(long type) {
            int kind = kindOf(type);
            return kind == JUST || kind == BELOW;
        }

        long innerOf(long box) {
            return isBox(box) ? firstOf(box) : ANY;
        }

        private int numberOf(long type) {
            for (int number = 0; number < numbered; number++) {
                if (ids[number] == type) {
                    return number;
                }
            }
            return -1;
        }

        /** Returns the number of a type; -1, with no number given, if there would be too many. */
        int numberFor(long type) {
            int before = numbered;
            if (!giveNumber(type)) {
                numbered = before;
            }
            return numberOf(type);
        }

        private boolean giveNumber(long type) {
            if (numberOf(type) >= 0) {
                return true;
            }
            int kind = kindOf(type);
            if (kind >= JUST && !giveNumber(firstOf(type))) {
                return false;
            }
            if (kind == UNION && !giveNumber(secondOf(type))) {
                return false;
            }
            if (numbered >= MOST_TYPES) {
                return false;
            }
            ids[numbered] = type;
            numbered++;
            return true;
        }

        private boolean below(long s, long t) {
            if (s == t || s == NONE || t == ANY) {
                return true;
            }
            int kind = s >= ONES ? ONE : kinds[(int) s >> SHIFT][(int) s & IN_PIECE];
            int kindAbove = t >= ONES ? ONE : kinds[(int) t >> SHIFT][(int) t & IN_PIECE];
            long first = s >= ONES ? s : firsts[(int) s >> SHIFT][(int) s & IN_PIECE];
            long firstAbove = t >= ONES ? t : firsts[(int) t >> SHIFT][(int) t & IN_PIECE];
            if (kind == UNION) {
                return below(first, t) && below(seconds[(int) s >> SHIFT][(int) s & IN_PIECE], t);
            }
            if (kindAbove == UNION) {
                return below(s, firstAbove) || below(s, seconds[(int) t >> SHIFT][(int) t & IN_PIECE]);
            }
            if (kind == ONE) {
                return t == INT;
            }
            if (kind == NAMED) {
                long above = first;
                for (int left = MOST_TYPES; left > 0 && above != ANY && above != t; left--) {
                    above = firsts[(int) above >> SHIFT][(int) above & IN_PIECE];
                }
                return above == t;
            }
            if (kind == JUST && kindAbove == JUST) {
                return below(first, firstAbove) && below(firstAbove, first);
            }
            return (kind == JUST || kind == BELOW) && kindAbove == BELOW && below(first, firstAbove);
        }

        private boolean meeting(long s, long t) {
            if (s == NONE || t == NONE) {
                return false;
            }
            if (below(s, t) || below(t, s)) {
                return true;
            }
            int kind = kindOf(s);
            int other = kindOf(t);
            if (kind == UNION) {
                return meeting(firstOf(s), t) || meeting(secondOf(s), t);
            }
            if (other == UNION) {
                return meeting(s, firstOf(t)) || meeting(s, secondOf(t));
            }
            if (kind == BELOW && other == BELOW) {
                return true;
            }
            if (kind == JUST && other == BELOW) {
                return below(firstOf(s), firstOf(t));
            }
            return kind == BELOW && other == JUST && below(firstOf(t), firstOf(s));
        }

        /**
         * Returns a part of a type that is below 2 and not 2 itself, or -1. Such a part is below all types, so that
         * each one but 2 meets it, and the type that has it.
         */
        private long hollowPart(long type) {
            if (type < 0 || kindOf(type) != UNION) {
                return NONE_GIVEN;
            }
            if (below(type, NONE)) {
                return type;
            }
            long part = hollowPart(firstOf(type));
            return part >= 0 ? part : hollowPart(secondOf(type));
        }

        long join(long s, long t) {
            if (below(s, t)) {
                return t;
            }
            if (below(t, s)) {
                return s;
            }
            if (depthOf(s) >= DEEPEST || depthOf(t) >= DEEPEST) {
                return ANY;
            }
            return put(UNION, s, t);
        }

        private boolean isValueOf(long type, int n, long t) {
            if (t >= ONES) {
                return type == INT && n == intOf(t);
            }
            if (kindOf(t) == UNION && (isValueOf(type, n, firstOf(t)) || isValueOf(type, n, secondOf(t)))) {
                return true;
            }
            return below(type, t);
        }

        private long widened(long type) {
            int kind = kindOf(type);
            if (kind == ONE) {
                return INT;
            }
            if (kind != UNION) {
                return type;
            }
            long first = firstOf(type);
            long second = secondOf(type);
            long wideFirst = widened(first);
            long wideSecond = widened(second);
            // Parts are joined only where one has become another: a join can let go of one of them.
            return wideFirst == first && wideSecond == second ? type : join(wideFirst, wideSecond);
        }

        /** Returns the type of boxes with something of a type, given the same without the types of one int. */
        long boxed(long type, long wide) {
            if (type == NONE) {
                return NONE;
            }
            if (below(type, INT)) {
                return put(JUST, INT, 0);
            }
            boolean isExact = isConcrete(type) || kindOf(type) == JUST;
            long inner = isExact ? type : wide;
            if (depthOf(inner) >= DEEPEST) {
                return ANY;
            }
            return put(isExact ? JUST : BELOW, inner, 0);
        }

        long unboxed(long type) {
            return type == NONE ? NONE : isBox(type) ? firstOf(type) : ANY;
        }

        long worked(int kind, long s, long t) {
            if (s >= ONES && t >= ONES) {
                return one(Worldage.worked(kind, intOf(s), intOf(t)));
            }
            return meeting(s, INT) && meeting(t, INT) ? INT : NONE;
        }
    }

    private static int worked(int kind, int a, int b) {
        switch (kind) {
            case '+':
                return a + b;
            case '-':
                return a - b;
            case '*':
                return a * b;
            default:
                return a < b ? 1 : 0;
        }
    }

    /** The nodes: each has only such as were told before it, so that no body goes round in a circle. */
    private static final class Nodes {
        static final int DEEPEST = 9;

        final int[] kinds = new int[MOST_NODES];
        final int[] as = new int[MOST_NODES];
        final int[] bs = new int[MOST_NODES];
        final int[] cs = new int[MOST_NODES];
        private final int[] depths = new int[MOST_NODES];
        private final boolean[] areLate = new boolean[MOST_NODES];
        private final int[] reached = new int[MOST_NODES];
        private int reachedBody = -1;
        int size;

        boolean isKind(int kind) {
            switch (kind) {
                case 'n':
                case 'a':
                case '+':
                case '-':
                case '*':
                case '<':
                case '?':
                case 'c':
                case 'l':
                case 'o':
                case 'f':
                case 'x':
                case 'u':
                case 'd':
                case 't':
                case 'y':
                    return true;
                default:
                    return false;
            }
        }

        /** Tells whether a is in range; for objects it is the id of a concrete named type, or -1. */
        boolean isInRange(int kind, int a) {
            switch (kind) {
                case 'a':
                    return a == 0 || a == 1;
                case 'c':
                case 'l':
                    return a >= 0 && a < FUNCTIONS;
                case 'o':
                    return a >= 0;
                case 'd':
                    return a >= 0 && a < MOST_METHODS;
                default:
                    return true;
            }
        }

        private boolean isNode(int node) {
            return node >= 0 && node < size;
        }

        private static boolean isTwofold(int kind) {
            return kind == '+' || kind == '-' || kind == '*' || kind == '<';
        }

        private static boolean hasNodeA(int kind) {
            return isTwofold(kind) || kind == '?' || kind == 'y'
                    || kind == 'f' || kind == 'x' || kind == 'u' || kind == 't';
        }

        private static boolean hasNodeB(int kind) {
            return isTwofold(kind) || kind == '?' || kind == 'y' || kind == 'c' || kind == 'l' || kind == 'o';
        }

        private static boolean hasNodeC(int kind, int c) {
            return kind == '?' || ((kind == 'c' || kind == 'l') && c != NONE_GIVEN);
        }

        boolean hasOperands(int kind, int a, int b, int c) {
            return (!hasNodeA(kind) || isNode(a)) && (!hasNodeB(kind) || isNode(b))
                    && (!hasNodeC(kind, c) || isNode(c));
        }

        int depthOver(int kind, int a, int b, int c) {
            int depth = 0;
            if (hasNodeA(kind)) {
                depth = 1 + depths[a];
            }
            if (hasNodeB(kind)) {
                depth = Math.max(depth, 1 + depths[b]);
            }
            if (hasNodeC(kind, c)) {
                depth = Math.max(depth, 1 + depths[c]);
            }
            return depth;
        }

        int add(int kind, int a, int b, int c, int depth) {
            int node = size;
            size++;
            kinds[node] = kind;
            as[node] = a;
            bs[node] = b;
            cs[node] = c;
            depths[node] = depth;
            areLate[node] = isLate(kind) || hasNodeA(kind) && areLate[a] || hasNodeB(kind) && areLate[b]
                    || hasNodeC(kind, c) && areLate[c];
            return node;
        }

        /** Returns the node that is to be done at a place before the node itself can be; -1 for none. */
        int operandAt(int node, int place) {
            int kind = kinds[node];
            boolean isWithArguments = kind == 'c' || kind == 'l';
            if (place == 0) {
                return hasNodeA(kind) ? as[node] : hasNodeB(kind) ? bs[node] : -1;
            }
            if (place == 1 && isWithArguments) {
                return cs[node];
            }
            return place == 1 && isTwofold(kind) ? bs[node] : -1;
        }

        /** Marks all nodes of a body; operands are always told ahead of the node that has them. */
        void reach(int body) {
            if (body == reachedBody) {
                return;
            }
            reachedBody = body;
            Arrays.fill(reached, 0);
            if (body >= 0) {
                reached[body] = 1;
            }
            for (int node = body; node >= 0; node--) {
                if (reached[node] != 0) {
                    if (hasNodeA(kinds[node])) {
                        reached[as[node]] = 1;
                    }
                    if (hasNodeB(kinds[node])) {
                        reached[bs[node]] = 1;
                    }
                    if (hasNodeC(kinds[node], cs[node])) {
                        reached[cs[node]] = 1;
                    }
                }
            }
        }

        boolean isReachedCall(int node) {
            return reached[node] != 0 && kinds[node] == 'c';
        }

        private static boolean isLate(int kind) {
            return kind == 'l' || kind == 'd';
        }

        /** Tells whether a body has a node l or d. */
        boolean hasLate(int body) {
            return areLate[body];
        }
    }

    /** The methods, and which of them are there at each age. */
    private static final class Book {
        private static final int MOST_AGES = 1 << 20;

        private final Types types;
        private final int[] functions = new int[MOST_METHODS];
        private final long[] firsts = new long[MOST_METHODS];
        private final long[] seconds = new long[MOST_METHODS];
        final int[] bodies = new int[MOST_METHODS];
        private final long[] groups = new long[2 * FUNCTIONS];
        private long[] present = new long[64];
        int size;
        int now;

        Book(Types types) {
            this.types = types;
        }

        int add(int function, long first, long second, int body) {
            int method = size;
            size++;
            functions[method] = function;
            firsts[method] = first;
            seconds[method] = second;
            bodies[method] = body;
            groups[groupOf(function, second)] |= 1L << method;
            return method;
        }

        private static int groupOf(int function, long second) {
            return second < 0 ? function : function + FUNCTIONS;
        }

        private static boolean has(long set, int method) {
            return (set >>> method & 1L) != 0;
        }

        boolean isPresent(int method, int age) {
            return has(present[age], method);
        }

        void bring(int method) {
            long left = present[now];
            for (int other = 0; other < size; other++) {
                if (hasSameTypes(method, other)) {
                    left &= ~(1L << other);
                }
            }
            turnAge(left | 1L << method);
        }

        void drop(int method) {
            turnAge(present[now] & ~(1L << method));
        }

        private void turnAge(long set) {
            if (now < MOST_AGES - 1) {
                now++;
            }
            if (now >= present.length) {
                present = Arrays.copyOf(present, 2 * present.length);
            }
            present[now] = set;
        }

        private boolean hasSameTypes(int method, int other) {
            return functions[method] == functions[other] && firsts[method] == firsts[other]
                    && seconds[method] == seconds[other];
        }

        private long groupAt(int function, long second, int age) {
            return present[age] & groups[groupOf(function, second)];
        }

        long matchingTypes(int function, long first, long second, int age) {
            long group = groupAt(function, second, age);
            long matching = 0;
            for (int method = 0; method < size; method++) {
                if (has(group, method) && types.below(first, firsts[method])
                        && (second < 0 || types.below(second, seconds[method]))) {
                    matching |= 1L << method;
                }
            }
            return matching;
        }

        long matchingValues(int function, int age, long first, int firstInt, long second, int secondInt) {
            long group = groupAt(function, second, age);
            long matching = 0;
            for (int method = 0; method < size; method++) {
                if (has(group, method) && types.isValueOf(first, firstInt, firsts[method])
                        && (second < 0 || types.isValueOf(second, secondInt, seconds[method]))) {
                    matching |= 1L << method;
                }
            }
            return matching;
        }

        /** Returns the method that is below each other one; -1 if there are none, -2 if it is not clear. */
        int bestOf(long set) {
            int best = -1;
            int count = 0;
            for (int method = 0; method < size; method++) {
                if (has(set, method) && isBelowAll(method, set)) {
                    best = method;
                    count++;
                }
            }
            if (set == 0) {
                return -1;
            }
            return count == 1 ? best : -2;
        }

        private boolean isBelowAll(int method, long set) {
            for (int other = 0; other < size; other++) {
                if (has(set, other) && !isUnder(method, other)) {
                    return false;
                }
            }
            return true;
        }

        private boolean isUnder(int method, int other) {
            return types.below(firsts[method], firsts[other])
                    && (seconds[method] < 0 || types.below(seconds[method], seconds[other]));
        }

        boolean isMetBy(int method, long first, long second) {
            return types.meeting(first, firsts[method]) && (second < 0 || types.meeting(second, seconds[method]));
        }

        boolean isForCall(int method, int function, long second) {
            return functions[method] == function && seconds[method] < 0 == second < 0;
        }

        int unclearPairs(int function) {
            return unclearPairsOf(groupAt(function, NONE_GIVEN, now)) + unclearPairsOf(groupAt(function, 0, now));
        }

        private int unclearPairsOf(long group) {
            int pairs = 0;
            for (int method = 0; method < size; method++) {
                for (int other = method + 1; other < size; other++) {
                    if (has(group, method) && has(group, other) && isMetBy(method, firsts[other], seconds[other])
                            && !isUnder(method, other) && !isUnder(other, method)) {
                        pairs++;
                    }
                }
            }
            return pairs;
        }

        /** Returns those that a call with values of these types can choose at the latest age. */
        long possible(int function, long first, long second) {
            long group = groupAt(function, second, now);
            long possible = 0;
            for (int method = 0; method < size; method++) {
                if (has(group, method) && types.meeting(first, firsts[method])
                        && (second < 0 || types.meeting(second, seconds[method]))) {
                    possible |= 1L << method;
                }
            }
            return possible;
        }

        /** Returns the method that all values of these types choose at the latest age, or -1. */
        int surely(int function, long first, long second) {
            long above = matchingTypes(function, first, second, now);
            if (above == 0) {
                return -1;
            }
            long possible = possible(function, first, second);
            for (int method = 0; method < size; method++) {
                if (has(above, method) && (possible & ~(1L << method)) == 0) {
                    return method;
                }
            }
            return -1;
        }

        long parameterOf(int method, int place) {
            return place == 0 ? firsts[method] : seconds[method];
        }

        long narrowedFirst(int method, long first) {
            return narrowed(first, firsts[method]);
        }

        long narrowedSecond(int method, long second) {
            return second < 0 ? second : narrowed(second, seconds[method]);
        }

        private long narrowed(long argument, long parameter) {
            return types.below(parameter, argument) && !types.below(argument, parameter) ? parameter : argument;
        }
    }

    /**
     * Calls, each with a function and the types of its arguments, and with places for numbers of their own. They lie
     * in pieces that are made when they are needed and kept, so that they are not copied as they become more.
     */
    private static final class CallTable {
        private static final int FUNCTION_SHIFT = 33;
        private static final int NEXT_SHIFT = 36;
        private static final long KEY_BITS = (1L << NEXT_SHIFT) - 1;
        private static final int PIECE_SHIFT = 8;
        private static final int PIECE = 1 << PIECE_SHIFT;
        private static final int FEWEST_BUCKETS = 64;
        private static final int MOST_BUCKETS = 1 << 19;
        private static final int CALLS_A_BUCKET = 2;

        /**
         * The places of a call: first the function with the type of the first argument, and, above these, 1 more than
         * the next call of the same bucket; then the type of the second one. Those from PLACES on are free for who has
         * the table.
         */
        private static final int KEY = 0;
        private static final int SECOND = 1;
        static final int PLACES = 2;

        private final int mostCalls;
        private final int places;
        private long[][] pieces = new long[16][];
        private int[] heads = new int[FEWEST_BUCKETS];
        private int buckets = FEWEST_BUCKETS;
        int size;

        CallTable(int mostCalls, int places) {
            this.mostCalls = mostCalls;
            this.places = places;
            Arrays.fill(heads, -1);
        }

        void clear() {
            buckets = FEWEST_BUCKETS;
            Arrays.fill(heads, 0, buckets, -1);
            size = 0;
        }

        boolean isFull() {
            return size >= mostCalls;
        }

        long at(int call, int place) {
            return pieces[call >> PIECE_SHIFT][(call & (PIECE - 1)) * places + place];
        }

        void set(int call, int place, long n) {
            pieces[call >> PIECE_SHIFT][(call & (PIECE - 1)) * places + place] = n;
        }

        int functionOf(int call) {
            return (int) ((at(call, KEY) & KEY_BITS) >>> FUNCTION_SHIFT);
        }

        long firstOf(int call) {
            return at(call, KEY) & ((1L << FUNCTION_SHIFT) - 1);
        }

        long secondOf(int call) {
            return at(call, SECOND);
        }

        void markTypes(Types types) {
            for (int call = 0; call < size; call++) {
                types.mark(firstOf(call));
                types.mark(secondOf(call));
            }
        }

        private static long keyOf(int function, long first) {
            return (long) function << FUNCTION_SHIFT | first;
        }

        private int bucketOf(long key, long second) {
            long mixed = key * 0x9E3779B97F4A7C15L ^ second * 0xC2B2AE3D27D4EB4FL;
            return (int) (mixed >>> 40) & (buckets - 1);
        }

        /** Returns the place of a call that was added, or -1. */
        int find(int function, long first, long second) {
            long key = keyOf(function, first);
            int call = heads[bucketOf(key, second)];
            for (int left = size; call >= 0 && left > 0; left--) {
                long keyAndNext = at(call, KEY);
                if ((keyAndNext & KEY_BITS) == key && at(call, SECOND) == second) {
                    return call;
                }
                call = (int) (keyAndNext >>> NEXT_SHIFT) - 1;
            }
            return -1;
        }

        int add(int function, long first, long second) {
            int call = size;
            int piece = call >> PIECE_SHIFT;
            if (piece >= pieces.length) {
                long[][] more = new long[2 * pieces.length][];
                for (int index = 0; index < pieces.length; index++) {
                    more[index] = pieces[index];
                }
                pieces = more;
            }
            if (pieces[piece] == null) {
                pieces[piece] = new long[PIECE * places];
            }
            size++;
            long key = keyOf(function, first);
            int bucket = bucketOf(key, second);
            set(call, KEY, (heads[bucket] + 1L) << NEXT_SHIFT | key);
            set(call, SECOND, second);
            heads[bucket] = call;
            if (size > CALLS_A_BUCKET * buckets && buckets < MOST_BUCKETS) {
                buckets *= 2;
                link();
            }
            return call;
        }

        /** Puts all calls into the buckets anew. */
        private void link() {
            if (heads.length < buckets) {
                heads = new int[buckets];
            }
            Arrays.fill(heads, 0, buckets, -1);
            for (int call = 0; call < size; call++) {
                long key = at(call, KEY) & KEY_BITS;
                int bucket = bucketOf(key, at(call, SECOND));
                set(call, KEY, (heads[bucket] + 1L) << NEXT_SHIFT | key);
                heads[bucket] = call;
            }
        }

        /** Lets go of the calls that have none of these bits at a place. */
        void letGo(int place, long bits) {
            int kept = 0;
            for (int call = 0; call < size; call++) {
                if ((at(call, place) & bits) != 0) {
                    for (int index = 0; index < places; index++) {
                        set(kept, index, at(call, index));
                    }
                    kept++;
                }
            }
            size = kept;
            link();
        }
    }

    /** What calls can have as their results, found in rounds. */
    private static final class Inferring {
        private static final int MOST_ROUNDS = 4;
        private static final int MOST_WITHIN = 6;
        private static final int MOST_CALLS_FOUND = 1200000;

        /** The places of a call: the round that found it last, what that and the round before found for it. */
        private static final int ROUND = CallTable.PLACES;
        private static final int RESULT = ROUND + 1;
        private static final int BEFORE = ROUND + 2;
        private static final int PLACES = ROUND + 3;
        private static final long OPEN = -1;
        private static final long MISSING = -2;
        /** The result of a call that is being found and was asked for meanwhile. */
        private static final long ASKED = -3;

        /** What each call counts as: what is found for it, or, beside 0, what is not known. */
        private static final long FOUND = -4;
        private static final long UNKNOWN = -5;
        /** The round that is made ahead of the others, and is as the last one if no call in it hangs on itself. */
        private static final int ROUND_ALONE = 0;

        private static final int NOT_MET = 0;
        private static final int MET_ALIKE = 1;
        private static final int MET_OTHERWISE = 2;

        private final Types types;
        private final Nodes nodes;
        private final Book book;
        private final CallTable found = new CallTable(MOST_CALLS_FOUND, PLACES);
        private int round;
        private int countOfRound;
        private boolean isAsBefore;
        /** Tells that each call that was asked for while it was being found is what it was taken for. */
        private boolean isFirm;
        private boolean isFull;
        private boolean isEnded;
        private long eachCall = FOUND;
        private boolean isHanging;

        /** What the nodes of the bodies have that are under way, one within the other. */
        private final long[] known = new long[MOST_WITHIN * MOST_NODES];
        private final int[] metStates = new int[MOST_NODES];
        private final long[] metFirsts = new long[MOST_NODES];
        private final long[] metSeconds = new long[MOST_NODES];

        Inferring(Types types, Nodes nodes, Book book) {
            this.types = types;
            this.nodes = nodes;
            this.book = book;
        }

        /**
         * Returns what the call can have; what was met and found then can be asked for until the next time. Rounds
         * behind the first one differ by nothing but what a call is taken for that is being found: if none is asked for
         * then, or each one is what it was taken for, the next round is the same.
         */
        long settle(int function, long first, long second) {
            long type = Types.ANY;
            types.isInferring = true;
            isFull = false;
            isEnded = false;
            for (int rounds = ROUND_ALONE; rounds <= MOST_ROUNDS && !isEnded && !isFull; rounds++) {
                round = rounds;
                if (rounds <= 1) {
                    found.clear();
                    countOfRound = 0;
                }
                int countBefore = countOfRound;
                countOfRound = 0;
                isAsBefore = true;
                isFirm = true;
                Arrays.fill(metStates, NOT_MET);
                type = callType(function, first, second, 0);
                boolean isNextAlike = isFirm && rounds != 1 && rounds < MOST_ROUNDS;
                isEnded = !isFull && (isNextAlike || isAsBefore && countOfRound == countBefore);
            }
            if (!isEnded) {
                type = Types.ANY;
                Arrays.fill(metStates, NOT_MET);
                eachCall = Types.ANY;
                bodiesType(function, first, second, 0);
                eachCall = FOUND;
            }
            types.isInferring = false;
            return type;
        }

        /** Meets the nodes c of the call's own bodies; tells whether this did not hang on what any call has. */
        boolean meetAlone(int function, long first, long second) {
            types.isInferring = true;
            types.spread();
            isHanging = false;
            Arrays.fill(metStates, NOT_MET);
            eachCall = UNKNOWN;
            bodiesType(function, first, second, 0);
            eachCall = FOUND;
            types.isInferring = false;
            return !isHanging;
        }

        boolean hasEnded() {
            return isEnded;
        }

        /** Returns how many calls were found in the rounds. */
        int countFound() {
            return found.size;
        }

        boolean isOfLastRound(int call) {
            return found.at(call, ROUND) == round;
        }

        int foundFunction(int call) {
            return found.functionOf(call);
        }

        long foundFirst(int call) {
            return found.firstOf(call);
        }

        long foundSecond(int call) {
            return found.secondOf(call);
        }

        boolean isMet(int node) {
            return metStates[node] != NOT_MET;
        }

        boolean isMetWithValues(int node) {
            return isMet(node) && isOfValues(metFirsts[node]) && isOfValues(metSeconds[node]);
        }

        private static boolean isOfValues(long type) {
            return type != Types.NONE && type != UNKNOWN;
        }

        boolean isMetAlike(int node) {
            return metStates[node] == MET_ALIKE;
        }

        long metFirst(int node) {
            return metFirsts[node];
        }

        long metSecond(int node) {
            return metSeconds[node];
        }

        private long callType(int function, long first, long second, int within) {
            int call = found.find(function, first, second);
            if (call >= 0 && found.at(call, ROUND) == round) {
                return resultOf(call);
            }
            if (within >= MOST_WITHIN) {
                return Types.ANY;
            }
            if (round == ROUND_ALONE && !isFirm) {
                return Types.ANY;
            }
            if (isFull || (call < 0 && found.isFull())) {
                isFull = true;
                return Types.ANY;
            }
            long before = call >= 0 && found.at(call, ROUND) == round - 1 ? found.at(call, RESULT) : MISSING;
            if (call < 0) {
                call = found.add(function, first, second);
            }
            open(call, before);
            types.spread();
            long type = bodiesType(function, first, second, within);
            if (round != 1 && types.isOneInt(type)) {
                type = Types.INT;
            }
            isFirm &= found.at(call, RESULT) == OPEN || type == takenFor(before);
            found.set(call, RESULT, type);
            isAsBefore &= before == type;
            return type;
        }

        private long resultOf(int call) {
            long result = found.at(call, RESULT);
            if (result != OPEN && result != ASKED) {
                return result;
            }
            found.set(call, RESULT, ASKED);
            isFirm &= round != ROUND_ALONE;
            return takenFor(found.at(call, BEFORE));
        }

        /** Returns what a call is taken for while it is being found. */
        private static long takenFor(long before) {
            return before == MISSING ? Types.NONE : before;
        }

        private void open(int call, long before) {
            found.set(call, BEFORE, before);
            found.set(call, ROUND, round);
            found.set(call, RESULT, OPEN);
            countOfRound++;
        }

        private long bodiesType(int function, long first, long second, int within) {
            long possible = book.possible(function, first, second);
            long type = Types.NONE;
            for (int method = 0; method < book.size; method++) {
                if ((possible >>> method & 1L) != 0) {
                    int body = book.bodies[method];
                    Arrays.fill(known, within * MOST_NODES, within * MOST_NODES + body + 1, MISSING);
                    type = joined(type, nodeType(body, book.narrowedFirst(method, first),
                            book.narrowedSecond(method, second), within));
                }
            }
            return type;
        }

        /**
         * Returns what a node has. In one body it has the same each time: a call in it is found once, and one that is
         * being found or lies too deep stays so until the body is done.
         */
        private long nodeType(int node, long first, long second, int within) {
            int place = within * MOST_NODES + node;
            if (known[place] == MISSING) {
                known[place] = freshType(node, first, second, within);
            }
            return known[place];
        }

        private long freshType(int node, long first, long second, int within) {
            int kind = nodes.kinds[node];
            int a = nodes.as[node];
            int b = nodes.bs[node];
            switch (kind) {
                case 'n':
                    return Types.one(a);
                case 'a':
                    return a == 0 ? first : second < 0 ? Types.NONE : second;
                case '?':
                    return branchType(node, first, second, within);
                case 'c':
                    return calledType(node, first, second, within);
                case 'l':
                    nodeType(b, first, second, within);
                    if (nodes.cs[node] >= 0) {
                        nodeType(nodes.cs[node], first, second, within);
                    }
                    return Types.ANY;
                case 'o':
                    nodeType(b, first, second, within);
                    return a;
                case 'f':
                    nodeType(a, first, second, within);
                    return Types.INT;
                case 'd':
                    return Types.INT;
                case 'x':
                    long content = nodeType(a, first, second, within);
                    return content == UNKNOWN ? UNKNOWN : types.boxed(content, types.widened(content));
                case 'u':
                    long box = nodeType(a, first, second, within);
                    return box == UNKNOWN ? UNKNOWN : types.unboxed(box);
                case 't':
                    nodeType(a, first, second, within);
                    return Types.NONE;
                case 'y':
                    long tried = nodeType(a, first, second, within);
                    return joined(tried, nodeType(b, first, second, within));
                default:
                    long left = nodeType(a, first, second, within);
                    long right = nodeType(b, first, second, within);
                    return left == UNKNOWN || right == UNKNOWN ? UNKNOWN : types.worked(kind, left, right);
            }
        }

        private long joined(long s, long t) {
            return s == UNKNOWN || t == UNKNOWN ? UNKNOWN : types.join(s, t);
        }

        private long branchType(int node, long first, long second, int within) {
            long condition = nodeType(nodes.as[node], first, second, within);
            if (condition == UNKNOWN) {
                isHanging = true;
                return UNKNOWN;
            }
            if (types.isOneInt(condition)) {
                int part = types.intOf(condition) != 0 ? nodes.bs[node] : nodes.cs[node];
                return nodeType(part, first, second, within);
            }
            if (!types.meeting(condition, Types.INT)) {
                return Types.NONE;
            }
            long type = nodeType(nodes.bs[node], first, second, within);
            return joined(type, nodeType(nodes.cs[node], first, second, within));
        }

        private long calledType(int node, long first, long second, int within) {
            int c = nodes.cs[node];
            long callFirst = nodeType(nodes.bs[node], first, second, within);
            long callSecond = c < 0 ? NONE_GIVEN : nodeType(c, first, second, within);
            if (within == 0) {
                note(node, callFirst, callSecond);
            }
            if (callFirst == Types.NONE || callSecond == Types.NONE) {
                return Types.NONE;
            }
            if (eachCall != FOUND) {
                isHanging |= callFirst == UNKNOWN || callSecond == UNKNOWN;
                return eachCall;
            }
            return callType(nodes.as[node], callFirst, callSecond, within + 1);
        }

        /** Notes how a node c is met in the body of the call that is asked for; those of other calls do not count. */
        private void note(int node, long first, long second) {
            boolean isOther = metStates[node] == MET_ALIKE && (metFirsts[node] != first || metSeconds[node] != second);
            metStates[node] = isOther || metStates[node] == MET_OTHERWISE ? MET_OTHERWISE : MET_ALIKE;
            metFirsts[node] = first;
            metSeconds[node] = second;
        }
    }

    /** Code made for kinds of arguments, with the calls fixed in it and the edges by which it becomes stale. */
    private static final class Codes {
        private static final int NEVER = 2147483647;
        private static final int MOST_EDGES = 1 << 22;
        private static final int MANY_MORE_EDGES = 4096;
        /** The place of an edge with a bit for each code that has it. */
        private static final int OWNERS = CallTable.PLACES;

        private final Types types;
        private final Nodes nodes;
        private final Book book;
        private final int[] functions = new int[MOST_CODES];
        private final long[] firsts = new long[MOST_CODES];
        private final long[] seconds = new long[MOST_CODES];
        private final int[] madeAges = new int[MOST_CODES];
        private final int[] staleAges = new int[MOST_CODES];
        final int[] methods = new int[MOST_CODES];
        final int[] fixedRows = new int[MOST_CODES * MOST_NODES];
        final int[] fixedCounts = new int[MOST_CODES];
        final int[] callCounts = new int[MOST_CODES];
        final int[] edgeCounts = new int[MOST_CODES];
        /** The edges of the codes that are not stale: each call once, as codes can have many edges in common. */
        private final CallTable edges = new CallTable(MOST_EDGES, CallTable.PLACES + 1);
        private int edgesBefore;
        /** The codes that are not stale, a bit for each. */
        private long fresh;
        int size;

        Codes(Types types, Nodes nodes, Book book) {
            this.types = types;
            this.nodes = nodes;
            this.book = book;
        }

        /** Returns the last code for a call that can be taken at an age, or -1. */
        int find(int function, long first, long second, int age) {
            for (int code = size - 1; code >= 0; code--) {
                if (functions[code] == function && firsts[code] == first && seconds[code] == second
                        && madeAges[code] <= age && age < staleAges[code]) {
                    return code;
                }
            }
            return -1;
        }

        /** Keeps code that has no call fixed and no edge yet. */
        int keep(int function, long first, long second) {
            if (size >= MOST_CODES) {
                size = 0;
                fresh = 0;
                edges.clear();
                edgesBefore = 0;
            }
            if (edges.size > 2 * edgesBefore + MANY_MORE_EDGES) {
                edges.letGo(OWNERS, fresh);
                edgesBefore = edges.size;
            }
            int code = size;
            size++;
            fresh |= 1L << code;
            functions[code] = function;
            firsts[code] = first;
            seconds[code] = second;
            madeAges[code] = book.now;
            staleAges[code] = NEVER;
            methods[code] = book.surely(function, first, second);
            fixedCounts[code] = 0;
            callCounts[code] = 0;
            edgeCounts[code] = 0;
            Arrays.fill(fixedRows, code * MOST_NODES, (code + 1) * MOST_NODES, -1);
            return code;
        }

        /** Fixes the calls of the code that was kept last, for which its call has just been settled. */
        void fixCalls(int code, Inferring inferring) {
            if (methods[code] < 0) {
                return;
            }
            int body = book.bodies[methods[code]];
            nodes.reach(body);
            for (int node = 0; node <= body; node++) {
                if (nodes.isReachedCall(node)) {
                    callCounts[code]++;
                    if (inferring.isMetWithValues(node) && inferring.isMetAlike(node)) {
                        int method = book.surely(nodes.as[node], inferring.metFirst(node), inferring.metSecond(node));
                        fixedRows[code * MOST_NODES + node] = method;
                        fixedCounts[code] += method < 0 ? 0 : 1;
                    }
                }
            }
        }

        /** Draws the edges of the code that was kept last, for which the rounds have just ended. */
        void drawFound(int code, Inferring inferring) {
            // The call that was asked for, the code's own, is one of those that were found.
            int count = inferring.countFound();
            for (int call = 0; call < count; call++) {
                if (inferring.isOfLastRound(call)) {
                    addEdge(code, inferring.foundFunction(call), inferring.foundFirst(call),
                            inferring.foundSecond(call));
                }
            }
        }

        /**
         * Draws them if the rounds did not end: as each call counts as having all values, the code depends on nothing
         * but the choices of its own calls.
         */
        void drawMet(int code, Inferring inferring) {
            addEdge(code, functions[code], firsts[code], seconds[code]);
            int body = methods[code] < 0 ? -1 : book.bodies[methods[code]];
            nodes.reach(body);
            for (int node = 0; node <= body; node++) {
                if (nodes.isReachedCall(node) && inferring.isMet(node)) {
                    addEdge(code, nodes.as[node], inferring.metFirst(node), inferring.metSecond(node));
                }
            }
        }

        private void addEdge(int code, int function, long first, long second) {
            int edge = edges.find(function, first, second);
            if (edge < 0 && !edges.isFull()) {
                edge = edges.add(function, first, second);
                edges.set(edge, OWNERS, 0);
            }
            long owners = edge < 0 ? 0 : edges.at(edge, OWNERS);
            edgeCounts[code] += (owners >>> code & 1L) == 0 ? 1 : 0;
            if (edge >= 0) {
                edges.set(edge, OWNERS, owners | 1L << code);
            }
        }

        /** Makes code stale that a method touches which has just come or gone. */
        void spoil(int method) {
            long touched = 0;
            for (int edge = 0; edge < edges.size && (fresh & ~touched) != 0; edge++) {
                long owners = edges.at(edge, OWNERS) & fresh & ~touched;
                long second = edges.secondOf(edge);
                if (owners != 0 && book.isForCall(method, edges.functionOf(edge), second)
                        && book.isMetBy(method, edges.firstOf(edge), second)) {
                    touched |= owners;
                }
            }
            for (int code = 0; code < size; code++) {
                if ((touched >>> code & 1L) != 0) {
                    staleAges[code] = book.now;
                }
            }
            fresh &= ~touched;
        }

        /** Marks the types that the codes and their edges have; edges of stale ones are of no use any more. */
        void markTypes() {
            edges.letGo(OWNERS, fresh);
            edgesBefore = edges.size;
            for (int code = 0; code < size; code++) {
                types.mark(firsts[code]);
                types.mark(seconds[code]);
            }
            edges.markTypes(types);
        }

        int countStale() {
            int count = 0;
            for (int code = 0; code < size; code++) {
                count += staleAges[code] == NEVER ? 0 : 1;
            }
            return count;
        }

        int sumOf(int[] counts) {
            int sum = 0;
            for (int code = 0; code < size; code++) {
                sum += counts[code];
            }
            return sum;
        }
    }

    /** Values that are done and not used yet, each with its type and its int. */
    private static final class Values {
        static final int MOST = 256;

        final long[] types = new long[MOST];
        final int[] ints = new int[MOST];
        int size;

        void push(long type, int n) {
            if (size < MOST) {
                types[size] = type;
                ints[size] = n;
                size++;
            }
        }
    }

    /** Nodes that are begun and not over, each with how many of its operands are begun. */
    private static final class Work {
        static final int MOST = 256;

        final int[] nodes = new int[MOST];
        final int[] places = new int[MOST];
        final int[] callDepths = new int[MOST];
        final int[] valueDepths = new int[MOST];
        int size;

        void push(int node, int callDepth, int valueDepth) {
            if (size < MOST) {
                nodes[size] = node;
                places[size] = 0;
                callDepths[size] = callDepth;
                valueDepths[size] = valueDepth;
                size++;
            }
        }
    }

    /** Calls that are under way. Each has its own row of fixed methods, as its code can go while it lasts. */
    private static final class Calls {
        final long[] firsts = new long[MOST_CALLS];
        final int[] firstInts = new int[MOST_CALLS];
        final long[] seconds = new long[MOST_CALLS];
        final int[] secondInts = new int[MOST_CALLS];
        final int[] ages = new int[MOST_CALLS];
        final int[] workStarts = new int[MOST_CALLS];
        private final int[] fixedRows = new int[MOST_CALLS * MOST_NODES];
        int depth;

        /** Opens a call whose arguments are told from a place among the values on. */
        void open(Values values, int at, int count, int age, int workStart) {
            firsts[depth] = values.types[at];
            firstInts[depth] = values.ints[at];
            seconds[depth] = count > 1 ? values.types[at + 1] : NONE_GIVEN;
            secondInts[depth] = count > 1 ? values.ints[at + 1] : 0;
            ages[depth] = age;
            workStarts[depth] = workStart;
            Arrays.fill(fixedRows, depth * MOST_NODES, (depth + 1) * MOST_NODES, -1);
            depth++;
        }

        void takeRow(int[] rows, int code) {
            System.arraycopy(rows, code * MOST_NODES, fixedRows, (depth - 1) * MOST_NODES, MOST_NODES);
        }

        void markTypes(Types types) {
            for (int call = 0; call < depth; call++) {
                types.mark(firsts[call]);
                types.mark(seconds[call]);
            }
        }

        int fixedAt(int node) {
            return fixedRows[(depth - 1) * MOST_NODES + node];
        }
    }

    /** Runs a call step by step; no Java call stands open for a call or node of the language. */
    private static final class Machine {
        static final int GOING = 0;
        static final int AT_DEFINE = 1;
        private static final int MOST_TURNS = 1000000;

        private final Types types;
        private final Nodes nodes;
        private final Book book;
        private final Inferring inferring;
        private final Codes codes;
        private final Values values = new Values();
        private final Work work = new Work();
        private final Calls calls = new Calls();
        private int stepLimit;
        private boolean isByCode;
        private boolean stopsAtDefine;
        int outcome;
        long endType;
        int endInt;
        int stepCount;
        int lookupCount;
        int takenCount;

        Machine(Types types, Nodes nodes, Book book, Inferring inferring, Codes codes) {
            this.types = types;
            this.nodes = nodes;
            this.book = book;
            this.inferring = inferring;
            this.codes = codes;
        }

        void go(int function, int first, int second, int limit, boolean byCode, boolean stops) {
            stepLimit = limit;
            isByCode = byCode;
            stopsAtDefine = stops;
            clear();
            values.push(Types.INT, first);
            if (second != NO_SECOND_INT) {
                values.push(Types.INT, second);
            }
            call(function, values.size, book.now, -1);
            for (int turn = 0; turn < MOST_TURNS && outcome == GOING; turn++) {
                int node = advance();
                if (node >= 0 && nodes.kinds[node] == 'c') {
                    call(nodes.as[node], countOf(node), calls.ages[calls.depth - 1], calls.fixedAt(node));
                } else if (node >= 0 && nodes.kinds[node] == 'l') {
                    call(nodes.as[node], countOf(node), book.now, -1);
                } else if (node >= 0 && nodes.kinds[node] == 'd') {
                    bring(nodes.as[node]);
                } else if (node >= 0) {
                    apply(node);
                }
                leaveCalls();
            }
        }

        private void clear() {
            values.size = 0;
            work.size = 0;
            calls.depth = 0;
            outcome = GOING;
            endType = Types.ANY;
            endInt = 0;
            stepCount = 0;
            lookupCount = 0;
            takenCount = 0;
        }

        private int countOf(int node) {
            return nodes.cs[node] < 0 ? 1 : 2;
        }

        /** Begins the next operand of the node that was begun last; returns this one if it has no more, or -1. */
        private int advance() {
            int top = work.size - 1;
            int node = work.nodes[top];
            int operand = nodes.operandAt(node, work.places[top]);
            if (operand < 0) {
                work.size = top;
                return node;
            }
            work.places[top]++;
            begin(operand);
            return -1;
        }

        private void begin(int node) {
            if (stepCount >= stepLimit) {
                outcome = 's';
            } else if (stopsAtDefine && nodes.kinds[node] == 'd') {
                outcome = AT_DEFINE;
            } else {
                stepCount++;
                work.push(node, calls.depth, values.size);
            }
        }

        private void call(int function, int count, int age, int fixedMethod) {
            int at = values.size - count;
            if (calls.depth >= MOST_CALLS) {
                outcome = 's';
                return;
            }
            long first = values.types[at];
            long second = count > 1 ? values.types[at + 1] : NONE_GIVEN;
            int code = isByCode ? codes.find(function, first, second, age) : -1;
            if (isByCode && code < 0 && age == book.now) {
                sweepTypes();
                inferring.settle(function, first, second);
                code = codes.keep(function, first, second);
                codes.fixCalls(code, inferring);
                if (inferring.hasEnded()) {
                    codes.drawFound(code, inferring);
                } else {
                    codes.drawMet(code, inferring);
                }
            }
            takenCount += code < 0 ? 0 : 1;
            int method = code < 0 ? -1 : fixedMethod >= 0 ? fixedMethod : codes.methods[code];
            if (method < 0) {
                method = choose(function, age, at, count);
            }
            if (method < 0) {
                outcome = method == -1 ? 'n' : 'a';
                return;
            }
            calls.open(values, at, count, age, work.size);
            if (code >= 0 && method == codes.methods[code]) {
                calls.takeRow(codes.fixedRows, code);
            }
            values.size = at;
            begin(book.bodies[method]);
        }

        /** One run can make code often, each time with many types that nothing needs after that. */
        private void sweepTypes() {
            if (types.isCrowded()) {
                types.beginSweep();
                codes.markTypes();
                calls.markTypes(types);
                for (int index = 0; index < values.size; index++) {
                    types.mark(values.types[index]);
                }
                types.endSweep();
            }
        }

        private int choose(int function, int age, int at, int count) {
            lookupCount++;
            long second = count > 1 ? values.types[at + 1] : NONE_GIVEN;
            int secondInt = count > 1 ? values.ints[at + 1] : 0;
            return book.bestOf(book.matchingValues(function, age, values.types[at], values.ints[at],
                    second, secondInt));
        }

        /** A call is over when none of its nodes is under way; its value is then that of the node that called. */
        private void leaveCalls() {
            if (outcome != GOING) {
                return;
            }
            for (int left = MOST_CALLS; left > 0 && calls.depth > 0; left--) {
                if (work.size != calls.workStarts[calls.depth - 1]) {
                    return;
                }
                calls.depth--;
            }
            outcome = 'v';
            endType = values.types[0];
            endInt = values.ints[0];
        }

        private void apply(int node) {
            int kind = nodes.kinds[node];
            int a = nodes.as[node];
            switch (kind) {
                case 'n':
                    values.push(Types.INT, a);
                    break;
                case 'a':
                    pushArgument(a);
                    break;
                case '?':
                    branch(node);
                    break;
                case 'o':
                    change(values.types[values.size - 1] == Types.INT, a);
                    break;
                case 'f':
                    change(types.isObject(values.types[values.size - 1]), Types.INT);
                    break;
                case 'x':
                    fillBox();
                    break;
                case 'u':
                    long boxType = values.types[values.size - 1];
                    change(types.isBox(boxType), types.innerOf(boxType));
                    break;
                case 't':
                    raise();
                    break;
                case 'y':
                    break;
                default:
                    work(kind);
                    break;
            }
        }

        private void pushArgument(int argument) {
            int top = calls.depth - 1;
            if (argument == 0) {
                values.push(calls.firsts[top], calls.firstInts[top]);
            } else if (calls.seconds[top] >= 0) {
                values.push(calls.seconds[top], calls.secondInts[top]);
            } else {
                outcome = 'e';
            }
        }

        /** Gives the last value another type, as objects and boxes carry the int of what they are made of. */
        private void change(boolean isFit, long type) {
            if (isFit) {
                values.types[values.size - 1] = type;
            } else {
                outcome = 'e';
            }
        }

        private void fillBox() {
            long content = values.types[values.size - 1];
            boolean isFit = types.depthOf(content) < Types.DEEPEST;
            change(isFit, isFit ? types.put(Types.JUST, content, 0) : content);
        }

        private void branch(int node) {
            int top = values.size - 1;
            if (values.types[top] != Types.INT) {
                outcome = 'e';
                return;
            }
            values.size = top;
            begin(values.ints[top] != 0 ? nodes.bs[node] : nodes.cs[node]);
        }

        private void work(int kind) {
            int left = values.size - 2;
            if (values.types[left] != Types.INT || values.types[left + 1] != Types.INT) {
                outcome = 'e';
                return;
            }
            values.ints[left] = worked(kind, values.ints[left], values.ints[left + 1]);
            values.size = left + 1;
        }

        private void bring(int method) {
            if (method >= book.size || book.isPresent(method, book.now)) {
                outcome = 'e';
                return;
            }
            book.bring(method);
            codes.spoil(method);
            values.push(Types.INT, book.now);
        }

        /** Throws the last value to the innermost node y; such a node stays under way only for its first node. */
        private void raise() {
            int top = values.size - 1;
            if (values.types[top] != Types.INT) {
                outcome = 'e';
                return;
            }
            for (int index = work.size - 1; index >= 0; index--) {
                int node = work.nodes[index];
                if (nodes.kinds[node] == 'y') {
                    calls.depth = work.callDepths[index];
                    values.size = work.valueDepths[index];
                    work.size = index;
                    begin(nodes.bs[node]);
                    return;
                }
            }
            outcome = 't';
            endInt = values.ints[top];
        }
    }

    /** Counts the methods that can be reached from a call. */
    private static final class Trimmer {
        private static final int MOST_REACHED = 1000000;
        /** How much may be found for calls while there are others for which nothing needs to be found. */
        private static final int FOUND_AT_FIRST = 1 << 16;
        private static final int FOUND_A_CALL = 16;
        private static final int MANY = 16;
        /** Types are joined in so many passes; then those of the parameters are taken, once for each at most. */
        private static final int JOINING_PASSES = 4;
        private static final int MOST_PASSES = JOINING_PASSES + 2 * MOST_METHODS + 1;

        private final Types types;
        private final Nodes nodes;
        private final Book book;
        private final Inferring inferring;
        private final Codes codes;
        private final CallTable reached = new CallTable(MOST_REACHED, CallTable.PLACES);
        /** The methods that were reached, a bit for each. */
        private long methods;
        /** A hollow part of a type of an argument, -1 as long as none was reached. */
        private long hollow;

        /** Methods, a bit for each, with types above all that their arguments can have, and how deep these can be. */
        private long methodsAbove;
        private final long[] above = new long[2 * MOST_METHODS];
        private final int[] depthsAbove = new int[2 * MOST_METHODS];
        private boolean isWider;

        Trimmer(Types types, Nodes nodes, Book book, Inferring inferring, Codes codes) {
            this.types = types;
            this.nodes = nodes;
            this.book = book;
            this.inferring = inferring;
            this.codes = codes;
        }

        /**
         * Returns the number of methods, -1 if it cannot be told. What is met of a body without what any call has is
         * met first, for all calls; what hangs on that can need much, and waits as long as there are others.
         */
        int countFrom(int function, long first, long second) {
            methods = 0;
            hollow = NONE_GIVEN;
            reached.clear();
            if (first != Types.NONE && second != Types.NONE && !reach(function, first, second)) {
                return -1;
            }
            int met = 0;
            int settled = 0;
            long found = 0;
            boolean isAgain = false;
            for (int turn = 0; turn < 4 * MOST_REACHED && settled < reached.size; turn++) {
                boolean isPatient = found <= FOUND_AT_FIRST + (long) FOUND_A_CALL * met;
                boolean isSettling = settled < met && (isPatient || (met == reached.size && !reached.isFull()));
                if (!isSettling && met == reached.size) {
                    break;
                }
                int call = isSettling ? settled : met;
                types.hasRunOut = false;
                boolean isWhole = meetAlone(call);
                if (isSettling && !isWhole) {
                    found += settle(call);
                }
                if (types.hasRunOut) {
                    if (isAgain) {
                        break;
                    }
                    isAgain = true;
                    sweepTypes();
                    continue;
                }
                isAgain = false;
                if (!reachCalls(call)) {
                    return -1;
                }
                met += isSettling ? 0 : 1;
                settled += isSettling || (isWhole && settled == call) ? 1 : 0;
                // Types of one int can make a chain of calls that has no end.
                if (!isSettling && met >= MANY && (met & (met - 1)) == 0 && isClosed()) {
                    break;
                }
                if (types.isCrowded()) {
                    sweepTypes();
                }
            }
            return Long.bitCount(methods);
        }

        /** Meets what hangs on no call; tells whether this is all of it. */
        private boolean meetAlone(int call) {
            return inferring.meetAlone(reached.functionOf(call), reached.firstOf(call), reached.secondOf(call));
        }

        /** Settles a call; returns how many calls were found for that. */
        private int settle(int call) {
            inferring.settle(reached.functionOf(call), reached.firstOf(call), reached.secondOf(call));
            return inferring.countFound();
        }

        /** Reaches the calls whose nodes c were just met; tells whether each one has a fixed method. */
        private boolean reachCalls(int call) {
            int method = book.surely(reached.functionOf(call), reached.firstOf(call), reached.secondOf(call));
            int body = method < 0 ? -1 : book.bodies[method];
            nodes.reach(body);
            for (int node = 0; node <= body; node++) {
                if (nodes.isReachedCall(node) && inferring.isMetWithValues(node)) {
                    if (!inferring.isMetAlike(node)
                            || !reach(nodes.as[node], inferring.metFirst(node), inferring.metSecond(node))) {
                        return false;
                    }
                }
            }
            return true;
        }

        /**
         * Reaches a call, also if there is no more room to go on from it; tells whether it has a fixed method, and one
         * whose body lets it be told what can be reached.
         */
        private boolean reach(int function, long first, long second) {
            if (reached.find(function, first, second) >= 0) {
                return true;
            }
            int method = book.surely(function, first, second);
            if (method < 0 || nodes.hasLate(book.bodies[method])) {
                return false;
            }
            methods |= 1L << method;
            hollow = Math.max(hollow, Math.max(types.hollowPart(first), types.hollowPart(second)));
            if (!reached.isFull()) {
                reached.add(function, first, second);
            }
            return true;
        }

        private void sweepTypes() {
            types.beginSweep();
            codes.markTypes();
            reached.markTypes(types);
            types.mark(hollow);
            types.endSweep();
        }

        /**
         * Tells whether no method but those that were reached can be, by types that are above all that arguments can
         * have, with 1 for each type of one int: beginning with the first call, each call in the bodies has to choose
         * one of those methods with such types.
         */
        private boolean isClosed() {
            methodsAbove = 0;
            isWider = true;
            openFirst();
            for (int pass = 0; pass < MOST_PASSES && isWider; pass++) {
                isWider = false;
                for (int method = 0; method < book.size; method++) {
                    int body = (methodsAbove >>> method & 1L) != 0 ? book.bodies[method] : -1;
                    nodes.reach(body);
                    for (int node = 0; node <= body; node++) {
                        if (nodes.isReachedCall(node) && !isClosedCall(node, method, pass)) {
                            return false;
                        }
                    }
                }
            }
            return methodsAbove != 0 && !isWider;
        }

        private void openFirst() {
            long first = reached.firstOf(0);
            long second = reached.secondOf(0);
            int method = book.surely(reached.functionOf(0), first, second);
            if (method >= 0) {
                open(method);
                widen(method, 0, first, types.depthOf(first), 0);
                if (second >= 0) {
                    widen(method, 1, second, types.depthOf(second), 0);
                }
            }
        }

        /**
         * What meets a type meets each one above it too, if it has no hollow part: with one it can be below a type and
         * meet others than this. So each call is also looked at with hollow types as what its arguments can have.
         */
        private boolean isClosedCall(int node, int method, int pass) {
            int function = nodes.as[node];
            int b = nodes.bs[node];
            int c = nodes.cs[node];
            for (int way = 0; way < 4; way++) {
                long first = typeAbove(b, method, (way & 1) != 0);
                long second = c < 0 ? NONE_GIVEN : typeAbove(c, method, (way & 2) != 0);
                if (first != Types.NONE && second != Types.NONE) {
                    int called = book.surely(function, first, second);
                    if (called < 0 || (methods >>> called & 1L) == 0
                            || book.possible(function, first, second) != 1L << called) {
                        return false;
                    }
                    open(called);
                    widen(called, 0, first, depthAbove(b, method), pass);
                    if (c >= 0) {
                        widen(called, 1, second, depthAbove(c, method), pass);
                    }
                }
            }
            return true;
        }

        private void open(int method) {
            if ((methodsAbove >>> method & 1L) == 0) {
                methodsAbove |= 1L << method;
                for (int place = 2 * method; place < 2 * method + 2; place++) {
                    above[place] = Types.NONE;
                    depthsAbove[place] = 0;
                }
                isWider = true;
            }
        }

        /** Has the type above an argument of a method be above this one, too. */
        private void widen(int method, int argument, long type, int depth, int pass) {
            int place = 2 * method + argument;
            if (types.below(type, above[place]) && depth <= depthsAbove[place]) {
                return;
            }
            if (pass < JOINING_PASSES) {
                above[place] = types.join(above[place], types.widened(type));
                depthsAbove[place] = Math.max(depth, depthsAbove[place]);
            } else {
                above[place] = book.parameterOf(method, argument);
                depthsAbove[place] = Types.DEEPEST;
            }
            isWider = true;
        }

        /**
         * Returns a type that is above all that a node can have in the body of a method, or a hollow one if that is
         * asked for: only arguments hand it on, as other nodes have none or count as having all values.
         */
        private long typeAbove(int node, int method, boolean isAskedHollow) {
            int a = nodes.as[node];
            switch (nodes.kinds[node]) {
                case 'n':
                case '+':
                case '-':
                case '*':
                case '<':
                case 'f':
                    return Types.INT;
                case 'o':
                    return a;
                case 'a':
                    return isAskedHollow && hollow >= 0 ? hollow : above[2 * method + a];
                case '?':
                    return joinAbove(nodes.bs[node], nodes.cs[node], method);
                case 'y':
                    return joinAbove(a, nodes.bs[node], method);
                case 't':
                    return Types.NONE;
                default:
                    return Types.ANY;
            }
        }

        /** A join is 0 if it would be too deep; and what hands a hollow part on is not looked for behind it. */
        private long joinAbove(int node, int other, int method) {
            if (hollow >= 0 || Math.max(depthAbove(node, method), depthAbove(other, method)) >= Types.DEEPEST) {
                return Types.ANY;
            }
            return types.join(typeAbove(node, method, false), typeAbove(other, method, false));
        }

        /** Returns how deep what a node can have in the body of a method can be at most. */
        private int depthAbove(int node, int method) {
            int a = nodes.as[node];
            switch (nodes.kinds[node]) {
                case 'n':
                case '+':
                case '-':
                case '*':
                case '<':
                case 'f':
                    return 1;
                case 'o':
                case 't':
                    return 0;
                case 'a':
                    return depthsAbove[2 * method + a];
                case '?':
                    return depthJoined(nodes.bs[node], nodes.cs[node], method);
                case 'y':
                    return depthJoined(a, nodes.bs[node], method);
                default:
                    return Types.DEEPEST;
            }
        }

        private int depthJoined(int node, int other, int method) {
            return Math.min(Types.DEEPEST, 1 + Math.max(depthAbove(node, method), depthAbove(other, method)));
        }
    }
}
