import java.util.ArrayList;
import java.util.HashMap;
import java.util.HashSet;
import java.util.LinkedHashMap;
import java.util.LinkedHashSet;
import java.util.List;
import java.util.Map;
import java.util.NoSuchElementException;
import java.util.Set;
import java.util.TreeSet;

/** The document once more, word for word and without thought for speed: what Worldage answers is held against it. */
final class Model {
    static final int NO = Integer.MIN_VALUE;

    record T(char kind, int n, T a, T b) {
        int depth() {
            switch (kind) {
                case 's': return 1;
                case 'b': case 'o': return 1 + a.depth();
                case 'u': return 1 + Math.max(a.depth(), b.depth());
                default: return 0;
            }
        }
    }

    record Node(char kind, int a, int b, int c, int depth) { }

    record Method(int function, T first, T second, int body) { }

    record Call(int function, T first, T second) { }

    record V(T type, int n) { }

    static final class Code {
        Call call;
        int method;
        int made;
        int stale = Integer.MAX_VALUE;
        Set<Call> edges = new LinkedHashSet<>();
        Map<Integer, Integer> fixed = new HashMap<>();
        int calls;
    }

    static final class Over extends RuntimeException {
        final char how;

        Over(char how) {
            this.how = how;
        }
    }

    static final class Thrown extends RuntimeException {
        final int n;

        Thrown(int n) {
            this.n = n;
        }
    }

    final T any = new T('A', 0, null, null);
    final T ints = new T('I', 0, null, null);
    final T none = new T('N', 0, null, null);
    final List<T> types = new ArrayList<>(List.of(any, ints, none));
    final List<Node> nodes = new ArrayList<>();
    final List<Method> methods = new ArrayList<>();
    final List<TreeSet<Integer>> there = new ArrayList<>(List.of(new TreeSet<>()));
    List<Code> codes = new ArrayList<>();
    int namedCount;

    // ---- types

    T type(int number) {
        if (number < 0 || number >= types.size()) {
            throw new NoSuchElementException();
        }
        return types.get(number);
    }

    T second(int number) {
        return number == -1 ? null : type(number);
    }

    void collect(T t, List<T> into) {
        if (types.contains(t) || into.contains(t)) {
            return;
        }
        if (t.kind == 'b' || t.kind == 'o' || t.kind == 'u') {
            collect(t.a, into);
        }
        if (t.kind == 'u') {
            collect(t.b, into);
        }
        if (!into.contains(t)) {
            into.add(t);
        }
    }

    int number(T t) {
        List<T> fresh = new ArrayList<>();
        collect(t, fresh);
        if (types.size() + fresh.size() > 60) {
            return -1;
        }
        types.addAll(fresh);
        return types.indexOf(t);
    }

    int numberOr(T t, RuntimeException e) {
        int number = number(t);
        if (number < 0) {
            throw e;
        }
        return number;
    }

    int named(int parent, boolean isConcrete) {
        T p = type(parent);
        if (p != any && p.kind != 'M') {
            throw new IllegalArgumentException();
        }
        if (types.size() >= 60) {
            throw new IllegalStateException();
        }
        types.add(new T(isConcrete ? 'C' : 'M', namedCount++, p, null));
        return types.size() - 1;
    }

    int ofInt(int n) {
        return numberOr(new T('s', n, null, null), new IllegalStateException());
    }

    int made(T t) {
        if (t.depth() > 4) {
            throw new IllegalArgumentException();
        }
        return numberOr(t, new IllegalStateException());
    }

    int box(int type) {
        return made(new T('b', 0, type(type), null));
    }

    int boxBelow(int type) {
        return made(new T('o', 0, type(type), null));
    }

    int union(int first, int second) {
        return made(new T('u', 0, type(first), type(second)));
    }

    boolean below(T s, T t) {
        if (s.equals(t) || s == none || t == any) {
            return true;
        }
        if (s.kind == 'u') {
            return below(s.a, t) && below(s.b, t);
        }
        if (t.kind == 'u') {
            return below(s, t.a) || below(s, t.b);
        }
        if (s.kind == 's') {
            return t == ints;
        }
        if (s.kind == 'M' || s.kind == 'C') {
            for (T p = s.a; p != any; p = p.a) {
                if (p.equals(t)) {
                    return true;
                }
            }
            return false;
        }
        if (s.kind == 'b' && t.kind == 'b') {
            return below(s.a, t.a) && below(t.a, s.a);
        }
        if ((s.kind == 'b' || s.kind == 'o') && t.kind == 'o') {
            return below(s.a, t.a);
        }
        return false;
    }

    boolean meets(T s, T t) {
        if (s == none || t == none) {
            return false;
        }
        if (below(s, t) || below(t, s)) {
            return true;
        }
        if (s.kind == 'u') {
            return meets(s.a, t) || meets(s.b, t);
        }
        if (t.kind == 'u') {
            return meets(s, t.a) || meets(s, t.b);
        }
        if (s.kind == 'o' && t.kind == 'o') {
            return true;
        }
        if (s.kind == 'b' && t.kind == 'o') {
            return below(s.a, t.a);
        }
        if (s.kind == 'o' && t.kind == 'b') {
            return below(t.a, s.a);
        }
        return false;
    }

    boolean isBelow(int type, int other) {
        return below(type(type), type(other));
    }

    boolean meet(int type, int other) {
        return meets(type(type), type(other));
    }

    T join(T s, T t) {
        if (below(s, t)) {
            return t;
        }
        if (below(t, s)) {
            return s;
        }
        T u = new T('u', 0, s, t);
        return u.depth() > 4 ? any : u;
    }

    // ---- nodes and methods

    List<Integer> operands(char kind, int a, int b, int c) {
        switch (kind) {
            case '+': case '-': case '*': case '<': case 'y': return List.of(a, b);
            case '?': return List.of(a, b, c);
            case 'c': case 'l': return c == -1 ? List.of(b) : List.of(b, c);
            case 'o': return List.of(b);
            case 'f': case 'x': case 'u': case 't': return List.of(a);
            default: return List.of();
        }
    }

    int node(char kind, int a, int b, int c) {
        if ("na+-*<?clofxudty".indexOf(kind) < 0
                || (kind == 'a' && a != 0 && a != 1)
                || ((kind == 'c' || kind == 'l') && (a < 0 || a > 5))
                || (kind == 'd' && (a < 0 || a > 39))
                || (kind == 'o' && (a < 0 || a >= types.size() || types.get(a).kind != 'C'))) {
            throw new IllegalArgumentException();
        }
        int depth = 0;
        for (int o : operands(kind, a, b, c)) {
            if (o < 0 || o >= nodes.size()) {
                throw new NoSuchElementException();
            }
            depth = Math.max(depth, 1 + nodes.get(o).depth);
        }
        if (nodes.size() == 120 || depth > 9) {
            throw new IllegalStateException();
        }
        nodes.add(new Node(kind, a, b, c, depth));
        return nodes.size() - 1;
    }

    void needFunction(int function) {
        if (function < 0 || function > 5) {
            throw new IllegalArgumentException();
        }
    }

    int prepare(int function, int first, int second, int body) {
        needFunction(function);
        T f = type(first);
        T s = second(second);
        if (body < 0 || body >= nodes.size()) {
            throw new NoSuchElementException();
        }
        if (methods.size() == 40) {
            throw new IllegalStateException();
        }
        methods.add(new Method(function, f, s, body));
        return methods.size() - 1;
    }

    int now() {
        return there.size() - 1;
    }

    Method method(int m) {
        if (m < 0 || m >= methods.size()) {
            throw new NoSuchElementException();
        }
        return methods.get(m);
    }

    boolean isNow(int m) {
        return there.get(now()).contains(m);
    }

    int define(int m) {
        Method method = method(m);
        if (isNow(m)) {
            throw new IllegalStateException();
        }
        TreeSet<Integer> next = new TreeSet<>(there.get(now()));
        List<Method> changed = new ArrayList<>(List.of(method));
        for (int o : there.get(now())) {
            Method other = methods.get(o);
            if (other.function == method.function && other.first.equals(method.first)
                    && java.util.Objects.equals(other.second, method.second)) {
                next.remove(o);
                changed.add(other);
            }
        }
        next.add(m);
        there.add(next);
        spoil(changed);
        return now();
    }

    int takeAway(int m) {
        Method method = method(m);
        if (!isNow(m)) {
            throw new IllegalStateException();
        }
        TreeSet<Integer> next = new TreeSet<>(there.get(now()));
        next.remove(m);
        there.add(next);
        spoil(List.of(method));
        return now();
    }

    void spoil(List<Method> changed) {
        for (Code code : codes) {
            for (Call edge : code.edges) {
                for (Method m : changed) {
                    if (m.function == edge.function && hasPlaces(m, edge.second) && meetsAll(m, edge.first, edge.second)
                            && code.stale > now()) {
                        code.stale = now();
                    }
                }
            }
        }
    }

    boolean hasPlaces(Method m, T second) {
        return (m.second == null) == (second == null);
    }

    boolean meetsAll(Method m, T first, T second) {
        return meets(m.first, first) && (second == null || meets(m.second, second));
    }

    int age() {
        return now();
    }

    boolean isThere(int m, int age) {
        method(m);
        if (age < 0 || age > now()) {
            throw new IllegalArgumentException();
        }
        return there.get(age).contains(m);
    }

    boolean isOf(V v, T t) {
        return below(v.type, t) || (t.kind == 's' && v.type == ints && v.n == t.n)
                || (t.kind == 'u' && (isOf(v, t.a) || isOf(v, t.b)));
    }

    int best(List<Integer> matching) {
        if (matching.isEmpty()) {
            return -1;
        }
        List<Integer> best = new ArrayList<>();
        for (int m : matching) {
            boolean isBest = true;
            for (int o : matching) {
                if (o != m && !isUnder(methods.get(m), methods.get(o))) {
                    isBest = false;
                }
            }
            if (isBest) {
                best.add(m);
            }
        }
        return best.size() == 1 ? best.get(0) : -2;
    }

    boolean isUnder(Method m, Method o) {
        return below(m.first, o.first) && (m.second == null || below(m.second, o.second));
    }

    int chosen(int function, int first, int second, int age) {
        needFunction(function);
        if (age < 0 || age > now()) {
            throw new IllegalArgumentException();
        }
        T f = type(first);
        T s = second(second);
        if (!isOfValues(f) || (s != null && !isOfValues(s))) {
            throw new UnsupportedOperationException();
        }
        List<Integer> matching = new ArrayList<>();
        for (int m : there.get(age)) {
            Method x = methods.get(m);
            if (x.function == function && hasPlaces(x, s) && below(f, x.first) && (s == null || below(s, x.second))) {
                matching.add(m);
            }
        }
        return best(matching);
    }

    boolean isOfValues(T t) {
        return t == ints || t.kind == 'C' || (t.kind == 'b' && isOfValues(t.a));
    }

    int unclear(int function) {
        needFunction(function);
        int pairs = 0;
        for (int m : there.get(now())) {
            for (int o : there.get(now())) {
                Method x = methods.get(m);
                Method y = methods.get(o);
                if (m < o && x.function == function && y.function == function && hasPlaces(x, y.second)
                        && meetsAll(x, y.first, y.second) && !isUnder(x, y) && !isUnder(y, x)) {
                    pairs++;
                }
            }
        }
        return pairs;
    }

    // ---- inferring

    Map<Call, T> found;
    Set<Call> open;
    Map<Call, T> before;
    int round;
    boolean isEnded;
    boolean isGivenUp;
    Map<Integer, List<Call>> met;

    T inferred(Call call) {
        before = new LinkedHashMap<>();
        isEnded = false;
        T type = any;
        for (round = 1; round <= 4; round++) {
            found = new LinkedHashMap<>();
            open = new HashSet<>();
            met = new HashMap<>();
            type = found(call, 0);
            if (round > 1 && found.equals(before)) {
                isEnded = true;
                return type;
            }
            before = found;
        }
        met = new HashMap<>();
        isGivenUp = true;
        bodies(call, 0);
        isGivenUp = false;
        return any;
    }

    T found(Call call, int within) {
        if (found.containsKey(call)) {
            return found.get(call);
        }
        if (open.contains(call)) {
            return before.getOrDefault(call, none);
        }
        if (within >= 6) {
            return any;
        }
        open.add(call);
        T type = bodies(call, within);
        open.remove(call);
        if (round > 1 && type.kind == 's') {
            type = ints;
        }
        found.put(call, type);
        return type;
    }

    T bodies(Call call, int within) {
        T type = none;
        for (int m : there.get(now())) {
            Method x = methods.get(m);
            if (x.function == call.function && hasPlaces(x, call.second) && meetsAll(x, call.first, call.second)) {
                T f = narrow(call.first, x.first);
                T s = call.second == null ? null : narrow(call.second, x.second);
                type = join(type, has(x.body, f, s, within));
            }
        }
        return type;
    }

    T narrow(T argument, T parameter) {
        return below(parameter, argument) && !below(argument, parameter) ? parameter : argument;
    }

    T has(int n, T f, T s, int within) {
        Node node = nodes.get(n);
        switch (node.kind) {
            case 'n': return new T('s', node.a, null, null);
            case 'a': return node.a == 0 ? f : s == null ? none : s;
            case '+': case '-': case '*': case '<': {
                T x = has(node.a, f, s, within);
                T y = has(node.b, f, s, within);
                if (x.kind == 's' && y.kind == 's') {
                    return new T('s', work(node.kind, x.n, y.n), null, null);
                }
                return meets(x, ints) && meets(y, ints) ? ints : none;
            }
            case '?': {
                T x = has(node.a, f, s, within);
                if (x.kind == 's') {
                    return has(x.n != 0 ? node.b : node.c, f, s, within);
                }
                if (!meets(x, ints)) {
                    return none;
                }
                T y = has(node.b, f, s, within);
                return join(y, has(node.c, f, s, within));
            }
            case 'c': {
                T x = has(node.b, f, s, within);
                T y = node.c == -1 ? null : has(node.c, f, s, within);
                Call call = new Call(node.a, x, y);
                if (within == 0) {
                    met.computeIfAbsent(n, k -> new ArrayList<>()).add(call);
                }
                if (x == none || y == none) {
                    return none;
                }
                return isGivenUp ? any : found(call, within + 1);
            }
            case 'l':
                has(node.b, f, s, within);
                if (node.c != -1) {
                    has(node.c, f, s, within);
                }
                return any;
            case 'o':
                has(node.b, f, s, within);
                return types.get(node.a);
            case 'f':
                has(node.a, f, s, within);
                return ints;
            case 'd':
                return ints;
            case 'x': {
                T x = has(node.a, f, s, within);
                if (x == none) {
                    return none;
                }
                T box = below(x, ints) ? new T('b', 0, ints, null)
                        : x.kind == 'C' || x.kind == 'b' ? new T('b', 0, x, null) : new T('o', 0, wide(x), null);
                return box.depth() > 4 ? any : box;
            }
            case 'u': {
                T x = has(node.a, f, s, within);
                return x == none ? none : x.kind == 'b' || x.kind == 'o' ? x.a : any;
            }
            case 't':
                has(node.a, f, s, within);
                return none;
            default: {
                T x = has(node.a, f, s, within);
                return join(x, has(node.b, f, s, within));
            }
        }
    }

    T wide(T t) {
        return t.kind == 's' ? ints : t.kind == 'u' && hasOneInt(t) ? join(wide(t.a), wide(t.b)) : t;
    }

    boolean hasOneInt(T t) {
        return t.kind == 's' || (t.kind == 'u' && (hasOneInt(t.a) || hasOneInt(t.b)));
    }

    static int work(char kind, int x, int y) {
        return kind == '+' ? x + y : kind == '-' ? x - y : kind == '*' ? x * y : x < y ? 1 : 0;
    }

    int infer(int function, int first, int second) {
        needFunction(function);
        T f = type(first);
        T s = second(second);
        return numberOr(inferred(new Call(function, f, s)), new UnsupportedOperationException());
    }

    // ---- code

    int surely(Call call) {
        for (int m : there.get(now())) {
            Method x = methods.get(m);
            if (x.function == call.function && hasPlaces(x, call.second) && below(call.first, x.first)
                    && (call.second == null || below(call.second, x.second)) && !isOtherMet(m, call)) {
                return m;
            }
        }
        return -1;
    }

    boolean isOtherMet(int m, Call call) {
        for (int o : there.get(now())) {
            Method x = methods.get(o);
            if (o != m && x.function == call.function && hasPlaces(x, call.second)
                    && meetsAll(x, call.first, call.second)) {
                return true;
            }
        }
        return false;
    }

    Set<Integer> reach(int body) {
        Set<Integer> reached = new TreeSet<>();
        reach(body, reached);
        return reached;
    }

    void reach(int n, Set<Integer> into) {
        if (into.add(n)) {
            Node node = nodes.get(n);
            for (int o : operands(node.kind, node.a, node.b, node.c)) {
                reach(o, into);
            }
        }
    }

    Call lastMet(int n) {
        List<Call> calls = met.get(n);
        return calls == null ? null : calls.get(calls.size() - 1);
    }

    /** -1 for none, -2 if it is not met or has no values. */
    int fixedOf(int n) {
        Call call = lastMet(n);
        if (call == null || call.first == none || call.second == none) {
            return -2;
        }
        return new HashSet<>(met.get(n)).size() > 1 ? -1 : surely(call);
    }

    Code make(Call call) {
        Code code = new Code();
        code.call = call;
        code.made = now();
        code.method = surely(call);
        inferred(call);
        code.edges.add(call);
        if (isEnded) {
            code.edges.addAll(found.keySet());
        }
        if (code.method >= 0) {
            for (int n : reach(methods.get(code.method).body)) {
                if (nodes.get(n).kind == 'c') {
                    code.calls++;
                    if (fixedOf(n) >= 0) {
                        code.fixed.put(n, fixedOf(n));
                    }
                    if (!isEnded && lastMet(n) != null) {
                        code.edges.add(lastMet(n));
                    }
                }
            }
        }
        if (codes.size() == 60) {
            codes = new ArrayList<>();
        }
        codes.add(code);
        return code;
    }

    int trim(int function, int first, int second) {
        needFunction(function);
        Call call = new Call(function, type(first), second(second));
        Set<Integer> reached = new HashSet<>();
        List<Call> calls = new ArrayList<>();
        if (call.first != none && call.second != none) {
            calls.add(call);
        }
        for (int i = 0; i < calls.size() && i < 1000; i++) {
            int m = surely(calls.get(i));
            if (m < 0) {
                throw new UnsupportedOperationException();
            }
            reached.add(m);
            inferred(calls.get(i));
            for (int n : reach(methods.get(m).body)) {
                char kind = nodes.get(n).kind;
                if (kind == 'l' || kind == 'd') {
                    throw new UnsupportedOperationException();
                }
                if (kind == 'c' && fixedOf(n) == -1) {
                    throw new UnsupportedOperationException();
                }
                if (kind == 'c' && fixedOf(n) >= 0 && !calls.contains(lastMet(n))) {
                    calls.add(lastMet(n));
                }
            }
        }
        return reached.size();
    }

    // ---- running

    int stepLimit;
    boolean isByCode;
    boolean stopsAtDefine;
    int runSteps;
    int runLookups;
    int runTaken;
    char runEnd;
    V runValue;
    int runInt;

    void go(int function, int first, int second, int limit, boolean byCode, boolean stops) {
        stepLimit = limit;
        isByCode = byCode;
        stopsAtDefine = stops;
        runSteps = 0;
        runLookups = 0;
        runTaken = 0;
        runValue = null;
        runInt = 0;
        try {
            runValue = call(function, new V(ints, first), second == NO ? null : new V(ints, second), now(), -1, 1);
            runInt = runValue.n;
            runEnd = 'v';
        } catch (Thrown t) {
            runInt = t.n;
            runEnd = 't';
        } catch (Over o) {
            runEnd = o.how;
        }
    }

    V call(int function, V first, V second, int age, int fixed, int depth) {
        if (depth > 20) {
            throw new Over('s');
        }
        Code code = null;
        if (isByCode) {
            Call call = new Call(function, first.type, second == null ? null : second.type);
            for (Code c : codes) {
                if (c.call.equals(call) && c.made <= age && age < c.stale) {
                    code = c;
                }
            }
            if (code == null && age == now()) {
                code = make(call);
            }
        }
        int m;
        if (code == null) {
            m = plainly(function, first, second, age);
        } else {
            runTaken++;
            m = fixed >= 0 ? fixed : code.method >= 0 ? code.method : plainly(function, first, second, age);
        }
        Map<Integer, Integer> row = code != null && code.method == m ? code.fixed : Map.of();
        return eval(methods.get(m).body, new Frame(first, second, age, row, depth));
    }

    record Frame(V first, V second, int age, Map<Integer, Integer> fixed, int depth) { }

    int plainly(int function, V first, V second, int age) {
        runLookups++;
        List<Integer> matching = new ArrayList<>();
        for (int m : there.get(age)) {
            Method x = methods.get(m);
            if (x.function == function && (x.second == null) == (second == null) && isOf(first, x.first)
                    && (second == null || isOf(second, x.second))) {
                matching.add(m);
            }
        }
        int best = best(matching);
        if (best < 0) {
            throw new Over(best == -1 ? 'n' : 'a');
        }
        return best;
    }

    int intOf(V v) {
        if (v.type != ints) {
            throw new Over('e');
        }
        return v.n;
    }

    V eval(int n, Frame frame) {
        Node node = nodes.get(n);
        if (runSteps >= stepLimit) {
            throw new Over('s');
        }
        if (stopsAtDefine && node.kind == 'd') {
            throw new Over('d');
        }
        runSteps++;
        switch (node.kind) {
            case 'n': return new V(ints, node.a);
            case 'a': {
                V v = node.a == 0 ? frame.first : frame.second;
                if (v == null) {
                    throw new Over('e');
                }
                return v;
            }
            case '+': case '-': case '*': case '<': {
                V x = eval(node.a, frame);
                V y = eval(node.b, frame);
                return new V(ints, work(node.kind, intOf(x), intOf(y)));
            }
            case '?': return eval(intOf(eval(node.a, frame)) != 0 ? node.b : node.c, frame);
            case 'c': case 'l': {
                V x = eval(node.b, frame);
                V y = node.c == -1 ? null : eval(node.c, frame);
                boolean isLate = node.kind == 'l';
                int fixed = isLate ? -1 : frame.fixed.getOrDefault(n, -1);
                return call(node.a, x, y, isLate ? now() : frame.age, fixed, frame.depth + 1);
            }
            case 'o': return new V(types.get(node.a), intOf(eval(node.b, frame)));
            case 'f': {
                V v = eval(node.a, frame);
                if (v.type.kind != 'C') {
                    throw new Over('e');
                }
                return new V(ints, v.n);
            }
            case 'x': {
                V v = eval(node.a, frame);
                T box = new T('b', 0, v.type, null);
                if (box.depth() > 4) {
                    throw new Over('e');
                }
                return new V(box, v.n);
            }
            case 'u': {
                V v = eval(node.a, frame);
                if (v.type.kind != 'b') {
                    throw new Over('e');
                }
                return new V(v.type.a, v.n);
            }
            case 'd':
                if (node.a >= methods.size() || isNow(node.a)) {
                    throw new Over('e');
                }
                return new V(ints, define(node.a));
            case 't': throw new Thrown(intOf(eval(node.a, frame)));
            default:
                try {
                    return eval(node.a, frame);
                } catch (Thrown t) {
                    return eval(node.b, frame);
                }
        }
    }

    // ---- the last run

    char lastEnd;
    V lastValue;
    int lastInt;
    int lookups;
    int taken;
    int steps;
    long allSteps;

    char run(int function, int first, int second, int limit, boolean byCode) {
        needFunction(function);
        needSteps(limit);
        go(function, first, second, limit, byCode, false);
        lastEnd = runEnd;
        lastValue = runValue;
        lastInt = runInt;
        lookups = runLookups;
        taken = runTaken;
        steps = runSteps;
        allSteps += runSteps;
        return runEnd;
    }

    void needSteps(int limit) {
        if (limit < 1 || limit > 1000) {
            throw new IllegalArgumentException();
        }
    }

    int result() {
        if (lastEnd != 'v' && lastEnd != 't') {
            throw new NoSuchElementException();
        }
        return lastInt;
    }

    int resultType() {
        if (lastEnd != 'v') {
            throw new NoSuchElementException();
        }
        return numberOr(lastValue.type, new IllegalStateException());
    }

    boolean isSame(int function, int first, int second, int limit) {
        needFunction(function);
        needSteps(limit);
        go(function, first, second, limit, true, true);
        char end = runEnd;
        V value = runValue;
        int n = runInt;
        go(function, first, second, limit, false, true);
        return end == 's' || end == 'd' || runEnd == 's' || runEnd == 'd'
                || (end == runEnd && java.util.Objects.equals(value, runValue) && n == runInt);
    }

    int stale() {
        int count = 0;
        for (Code code : codes) {
            count += code.stale <= now() ? 1 : 0;
        }
        return count;
    }

    Code code(int index) {
        if (index < 0 || index >= codes.size()) {
            throw new IndexOutOfBoundsException();
        }
        return codes.get(index);
    }

    int edges(int index) {
        return code(index).edges.size();
    }

    int fixed(int index) {
        return code(index).fixed.size();
    }

    int methodOf(int index) {
        return code(index).method;
    }

    float fixedShare() {
        int fixed = 0;
        int all = 0;
        for (Code code : codes) {
            fixed += code.fixed.size();
            all += code.calls;
        }
        if (all == 0) {
            throw new ArithmeticException();
        }
        return (float) fixed / (float) all;
    }

    double meanEdges() {
        int sum = 0;
        for (Code code : codes) {
            sum += code.edges.size();
        }
        if (codes.isEmpty()) {
            throw new ArithmeticException();
        }
        return (double) sum / (double) codes.size();
    }
}
