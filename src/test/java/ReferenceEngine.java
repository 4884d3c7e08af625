import java.util.ArrayList;
import java.util.HashMap;
import java.util.LinkedHashMap;
import java.util.LinkedHashSet;
import java.util.List;
import java.util.Map;
import java.util.Set;

/**
 * The meaning of a program told a second time, with recursion, closures and exceptions, to compare the class with.
 * It takes only sources that GrammarOracle takes.
 */
final class ReferenceEngine {
    static final Object UNDEFINED = new Object();
    static final Object NULL = new Object();

    record Err(int code) {
    }

    static final class Obj {
        final Map<Integer, Object> properties = new LinkedHashMap<>();
        Function function;
        Scope scope;
    }

    static final class Function {
        final List<Integer> parameters = new ArrayList<>();
        final Set<Integer> own = new LinkedHashSet<>();
        final List<Function> declared = new ArrayList<>();
        int name = -1;
        boolean hasInner;
        List<Step> body = new ArrayList<>();
    }

    record Scope(Map<Integer, Object> values, Scope parent) {
    }

    interface Step {
        void go(Scope scope);
    }

    interface Expr {
        Object value(Scope scope);
    }

    static class Signal extends RuntimeException {
        Signal() {
            super(null, null, false, false);
        }
    }

    static final class Thrown extends Signal {
        final Object value;

        Thrown(Object value) {
            this.value = value;
        }
    }

    static final class Returned extends Signal {
        final Object value;

        Returned(Object value) {
            this.value = value;
        }
    }

    static final class Break extends Signal {
    }

    static final class Continue extends Signal {
    }

    static final class Stop extends Signal {
    }

    final List<int[]> methods = new ArrayList<>();
    final List<long[]> trace = new ArrayList<>();
    final Map<Integer, Object> globals = new HashMap<>();
    Object result = UNDEFINED;
    private long memory;
    private int made;
    private int outerCalls;
    private int active;
    private int ticks;

    private final List<int[]> tokens = new ArrayList<>();
    private int at;
    private Function program;
    private Function inside;

    void load(List<int[]> fed) {
        tokens.clear();
        int line = 0;
        for (int[] token : fed) {
            if (token[0] != 55) {
                tokens.add(new int[] {token[0], token[1], line});
            }
            line = token[0] == 55 ? 1 : 0;
        }
        at = 0;
        program = new Function();
        inside = program;
        program.body = items();
        forget();
        result = UNDEFINED;
    }

    private void forget() {
        globals.clear();
        trace.clear();
        memory = 0;
        made = 0;
        outerCalls = 0;
    }

    int run() {
        forget();
        for (int name : program.own) {
            globals.put(name, UNDEFINED);
        }
        return guarded(() -> {
            for (Function f : program.declared) {
                globals.put(f.name, make(f, null));
            }
            for (Step step : program.body) {
                step.go(null);
            }
            return UNDEFINED;
        });
    }

    int call(int f, int a, int b) {
        Object callee = globals.get(f);
        if (!(callee instanceof Obj o) || o.function == null) {
            return TestKit.NO_FUNCTION;
        }
        return guarded(() -> apply(callee, List.of(a, b)));
    }

    private interface Whole {
        Object value();
    }

    private int guarded(Whole whole) {
        ticks = 64;
        active = 0;
        try {
            result = whole.value();
            return TestKit.DONE;
        } catch (Thrown thrown) {
            result = thrown.value;
            return TestKit.THROWN;
        } catch (Stop stop) {
            result = UNDEFINED;
            return TestKit.STOPPED;
        }
    }

    long shown(Object value) {
        if (value == null) {
            return TestKit.ABSENT;
        }
        if (value == UNDEFINED) {
            return TestKit.UNDEFINED;
        }
        if (value == NULL) {
            return TestKit.NULL;
        }
        if (value instanceof Boolean b) {
            return TestKit.bool(b);
        }
        if (value instanceof Integer i) {
            return TestKit.num(i);
        }
        if (value instanceof Err e) {
            return TestKit.err(e.code);
        }
        Obj obj = (Obj) value;
        return obj.function == null ? TestKit.obj(obj.properties.size()) : TestKit.fun(obj.properties.size());
    }

    // ---- reading ----

    private int kind() {
        return at < tokens.size() ? tokens.get(at)[0] : -1;
    }

    private boolean afterLine() {
        return at < tokens.size() && tokens.get(at)[2] == 1;
    }

    private int take() {
        at++;
        return tokens.get(at - 1)[1];
    }

    private boolean takeIf(int kind) {
        if (kind() == kind) {
            at++;
            return true;
        }
        return false;
    }

    private List<Step> items() {
        List<Step> steps = new ArrayList<>();
        while (kind() != -1 && kind() != 7) {
            if (kind() == 40) {
                take();
                int name = take();
                inside.own.add(name);
                Function f = function();
                f.name = name;
                inside.declared.add(f);
            } else {
                steps.add(statement());
            }
        }
        return steps;
    }

    private Function function() {
        Function outer = inside;
        outer.hasInner = true;
        Function f = new Function();
        inside = f;
        take();
        while (!takeIf(5)) {
            if (kind() == 3) {
                take();
            }
            int name = take();
            f.parameters.add(name);
            f.own.add(name);
        }
        take();
        f.body = items();
        take();
        inside = outer;
        return f;
    }

    private Step block() {
        take();
        List<Step> steps = new ArrayList<>();
        while (!takeIf(7)) {
            steps.add(statement());
        }
        return scope -> {
            for (Step step : steps) {
                step.go(scope);
            }
        };
    }

    private Step ended(Step step) {
        takeIf(2);
        return step;
    }

    private Step statement() {
        switch (kind()) {
            case 6: return block();
            case 2: take(); return scope -> { };
            case 39: return var();
            case 42: return conditional();
            case 44: return loop();
            case 45: take(); return ended(scope -> { throw new Break(); });
            case 46: take(); return ended(scope -> { throw new Continue(); });
            case 41: return returning();
            case 47: take(); return throwing();
            case 48: return trying();
            default:
                Expr expr = assign();
                return ended(scope -> expr.value(scope));
        }
    }

    private Step var() {
        take();
        int name = take();
        inside.own.add(name);
        if (!takeIf(11)) {
            return ended(scope -> { });
        }
        Expr expr = assign();
        return ended(scope -> store(scope, name, expr.value(scope)));
    }

    private Step conditional() {
        take();
        take();
        Expr condition = assign();
        take();
        Step then = statement();
        Step other = takeIf(43) ? statement() : scope -> { };
        return scope -> (truth(condition.value(scope)) ? then : other).go(scope);
    }

    private Step loop() {
        take();
        take();
        Expr condition = assign();
        take();
        Step body = statement();
        return scope -> {
            while (true) {
                tick();
                if (!truth(condition.value(scope))) {
                    return;
                }
                try {
                    body.go(scope);
                } catch (Break signal) {
                    return;
                } catch (Continue signal) {
                    continue;
                }
            }
        };
    }

    private Step returning() {
        take();
        if (kind() == 2 || kind() == 7 || kind() == -1 || afterLine()) {
            return ended(scope -> { throw new Returned(UNDEFINED); });
        }
        Expr expr = assign();
        return ended(scope -> { throw new Returned(expr.value(scope)); });
    }

    private Step throwing() {
        Expr expr = assign();
        return ended(scope -> { throw new Thrown(expr.value(scope)); });
    }

    private Step trying() {
        take();
        Step block = block();
        take();
        take();
        int name = take();
        inside.own.add(name);
        take();
        Step handler = block();
        return scope -> {
            int depth = active;
            try {
                block.go(scope);
                return;
            } catch (Thrown thrown) {
                active = depth;
                store(scope, name, thrown.value);
            }
            handler.go(scope);
        };
    }

    private Expr assign() {
        int[] target = {0, 0};
        Expr[] holder = {null};
        Expr left = kind() == 33 || kind() == 37 || kind() == 38 ? null : operand(target, holder);
        if (left != null && target[0] != 0 && kind() >= 11 && kind() <= 15) {
            return assignment(target[0] == 2 ? holder[0] : null, target[1]);
        }
        Expr condition = binary(0, left);
        if (!takeIf(9)) {
            return condition;
        }
        Expr yes = assign();
        take();
        Expr no = assign();
        return scope -> (truth(condition.value(scope)) ? yes : no).value(scope);
    }

    private Expr assignment(Expr holder, int name) {
        int sign = kind();
        take();
        int operator = sign == 12 ? 32 : sign == 13 ? 33 : sign == 14 ? 34 : 20;
        Expr right = assign();
        return scope -> {
            Obj object = holder == null ? null : object(holder.value(scope));
            Object old = UNDEFINED;
            if (sign != 11) {
                old = holder == null ? read(scope, name) : object.properties.getOrDefault(name, UNDEFINED);
            }
            Object value = right.value(scope);
            if (sign != 11) {
                value = operate(operator, old, value);
            }
            if (holder == null) {
                store(scope, name, value);
            } else {
                put(object, name, value);
            }
            return value;
        };
    }

    private static final int[][] LEVELS = {
        {16}, {17}, {18}, {19}, {20}, {21, 22, 23, 24}, {25, 26, 27, 28}, {29, 30, 31}, {32, 33}, {34, 35, 36}
    };

    private boolean stands(int level) {
        for (int kind : LEVELS[level]) {
            if (kind == kind()) {
                return true;
            }
        }
        return false;
    }

    private Expr binary(int level, Expr first) {
        if (level == LEVELS.length) {
            return first != null ? first : unary();
        }
        Expr left = binary(level + 1, first);
        while (stands(level)) {
            int operator = kind();
            take();
            Expr one = left;
            Expr other = binary(level + 1, null);
            if (operator == 16 || operator == 17) {
                left = scope -> {
                    Object value = one.value(scope);
                    return truth(value) == (operator == 16) ? value : other.value(scope);
                };
            } else {
                left = scope -> {
                    Object a = one.value(scope);
                    Object b = other.value(scope);
                    return operate(operator, a, b);
                };
            }
        }
        return left;
    }

    private Expr unary() {
        int kind = kind();
        if (kind != 33 && kind != 37 && kind != 38) {
            return operand(new int[2], new Expr[1]);
        }
        take();
        Expr inner = unary();
        return scope -> {
            Object value = inner.value(scope);
            if (kind == 37) {
                return !truth(value);
            }
            return kind == 33 ? -toInt(value) : ~toInt(value);
        };
    }

    private Expr operand(int[] target, Expr[] holder) {
        target[0] = kind() == 0 ? 1 : 0;
        target[1] = tokens.get(at)[1];
        Expr expr = primary();
        while (true) {
            Expr before = expr;
            if (takeIf(8)) {
                int name = take();
                target[0] = 2;
                target[1] = name;
                holder[0] = before;
                expr = scope -> object(before.value(scope)).properties.getOrDefault(name, UNDEFINED);
            } else if (takeIf(4)) {
                target[0] = 0;
                List<Expr> given = arguments();
                expr = scope -> {
                    Object callee = before.value(scope);
                    return apply(callee, values(given, scope));
                };
            } else {
                return expr;
            }
        }
    }

    private List<Expr> arguments() {
        List<Expr> given = new ArrayList<>();
        while (!takeIf(5)) {
            takeIf(3);
            given.add(assign());
        }
        return given;
    }

    private static List<Object> values(List<Expr> exprs, Scope scope) {
        List<Object> values = new ArrayList<>();
        for (Expr expr : exprs) {
            values.add(expr.value(scope));
        }
        return values;
    }

    private Expr primary() {
        int kind = kind();
        int value = take();
        switch (kind) {
            case 0: return scope -> read(scope, value);
            case 1: return scope -> value;
            case 50: return scope -> true;
            case 51: return scope -> false;
            case 52: return scope -> NULL;
            case 53: return scope -> UNDEFINED;
            case 4:
                Expr inner = assign();
                take();
                return inner;
            case 6: return literal();
            case 40:
                Function f = function();
                return scope -> make(f, scope);
            default:
                take();
                int name = take();
                take();
                List<Expr> given = arguments();
                return scope -> host(name, values(given, scope));
        }
    }

    private Expr literal() {
        List<Integer> names = new ArrayList<>();
        List<Expr> exprs = new ArrayList<>();
        while (!takeIf(7)) {
            takeIf(3);
            names.add(take());
            take();
            exprs.add(assign());
        }
        return scope -> {
            Obj object = make(null, null);
            for (int i = 0; i < names.size(); i++) {
                put(object, names.get(i), exprs.get(i).value(scope));
            }
            return object;
        };
    }

    // ---- meaning ----

    private Thrown error(int code) {
        return new Thrown(new Err(code));
    }

    private void tick() {
        if (ticks == 0) {
            throw new Stop();
        }
        ticks--;
    }

    private static boolean truth(Object value) {
        return value != UNDEFINED && value != NULL && !Boolean.FALSE.equals(value) && !Integer.valueOf(0).equals(value);
    }

    private int toInt(Object value) {
        if (value instanceof Obj) {
            throw error(1);
        }
        if (value instanceof Boolean b) {
            return b ? 1 : 0;
        }
        if (value instanceof Err e) {
            return e.code;
        }
        return value instanceof Integer i ? i : 0;
    }

    private Obj object(Object value) {
        if (value instanceof Obj o) {
            return o;
        }
        throw error(1);
    }

    private Obj make(Function function, Scope scope) {
        if (made == 48) {
            throw error(3);
        }
        made++;
        Obj object = new Obj();
        object.function = function;
        object.scope = scope;
        return object;
    }

    private void put(Obj object, int name, Object value) {
        if (!object.properties.containsKey(name) && object.properties.size() == 4) {
            throw error(3);
        }
        object.properties.put(name, value);
    }

    private Map<Integer, Object> holderOf(Scope scope, int name) {
        for (Scope s = scope; s != null; s = s.parent) {
            if (s.values.containsKey(name)) {
                return s.values;
            }
        }
        return globals;
    }

    private Object read(Scope scope, int name) {
        Object value = holderOf(scope, name).get(name);
        if (value == null) {
            throw error(2);
        }
        return value;
    }

    private void store(Scope scope, int name, Object value) {
        holderOf(scope, name).put(name, value);
    }

    private static boolean identical(Object a, Object b) {
        return a instanceof Obj || b instanceof Obj ? a == b : a.equals(b);
    }

    private boolean equal(Object a, Object b) {
        boolean nothings = (a == NULL || a == UNDEFINED) && (b == NULL || b == UNDEFINED);
        boolean plain = (a instanceof Boolean || a instanceof Integer) && (b instanceof Boolean || b instanceof Integer);
        return nothings || (plain ? toInt(a) == toInt(b) : identical(a, b));
    }

    private Object operate(int operator, Object left, Object right) {
        switch (operator) {
            case 21: return equal(left, right);
            case 22: return !equal(left, right);
            case 23: return identical(left, right);
            case 24: return !identical(left, right);
            default: break;
        }
        int a = toInt(left);
        int b = toInt(right);
        if ((operator == 35 || operator == 36) && b == 0) {
            throw error(4);
        }
        switch (operator) {
            case 18: return a | b;
            case 19: return a ^ b;
            case 20: return a & b;
            case 25: return a < b;
            case 26: return a > b;
            case 27: return a <= b;
            case 28: return a >= b;
            case 29: return a << (b & 31);
            case 30: return a >> (b & 31);
            case 31: return a >>> (b & 31);
            case 32: return a + b;
            case 33: return a - b;
            case 34: return a * b;
            case 35: return (int) ((long) a / b);
            default: return (int) ((long) a % b);
        }
    }

    private Object apply(Object callee, List<?> given) {
        if (!(callee instanceof Obj o) || o.function == null) {
            throw error(1);
        }
        if (active == 8) {
            throw error(3);
        }
        tick();
        Function f = o.function;
        if (f.hasInner) {
            if (outerCalls == 60) {
                throw error(3);
            }
            outerCalls++;
        }
        Scope scope = new Scope(new HashMap<>(), o.scope);
        for (int name : f.own) {
            scope.values.put(name, UNDEFINED);
        }
        for (int i = 0; i < f.parameters.size(); i++) {
            scope.values.put(f.parameters.get(i), i < given.size() ? given.get(i) : UNDEFINED);
        }
        for (Function inner : f.declared) {
            scope.values.put(inner.name, make(inner, scope));
        }
        active++;
        try {
            for (Step step : f.body) {
                step.go(scope);
            }
            return UNDEFINED;
        } catch (Returned returned) {
            return returned.value;
        } finally {
            active--;
        }
    }

    private static int rank(Object value, int parameter) {
        String order = "7";
        if (value instanceof Integer) {
            order = "563427";
        } else if (value instanceof Boolean) {
            order = "175";
        } else if (value instanceof Err) {
            order = "75";
        }
        return order.indexOf((char) ('0' + parameter)) + 1;
    }

    private Object host(int name, List<Object> given) {
        List<Integer> fitting = new ArrayList<>();
        for (int m = 0; m < methods.size(); m++) {
            int[] method = methods.get(m);
            int count = method[1] == 0 ? 0 : method[2] == 0 ? 1 : 2;
            boolean fits = method[0] == name && count == given.size();
            for (int i = 0; fits && i < count; i++) {
                fits = rank(given.get(i), method[1 + i]) > 0;
            }
            if (fits) {
                fitting.add(m);
            }
        }
        if (fitting.isEmpty()) {
            throw error(5);
        }
        for (int m : fitting) {
            boolean best = true;
            for (int n : fitting) {
                for (int i = 0; i < given.size(); i++) {
                    best &= rank(given.get(i), methods.get(m)[1 + i]) <= rank(given.get(i), methods.get(n)[1 + i]);
                }
            }
            if (best) {
                return hostCall(m, given);
            }
        }
        throw error(6);
    }

    private Object hostCall(int m, List<Object> given) {
        int[] method = methods.get(m);
        long first = given.size() > 0 ? convert(given.get(0), method[1]) : 0;
        long second = given.size() > 1 ? convert(given.get(1), method[2]) : 0;
        trace.add(new long[] {m, first, second});
        memory = memory * 31 + first * 7 + second * 3 + m + 1;
        switch (method[3]) {
            case 0: return UNDEFINED;
            case 1: return memory % 2 != 0;
            case 2: return (int) (memory ^ (memory >>> 32));
            case 3: throw error(7);
            default: return NULL;
        }
    }

    private long convert(Object value, int parameter) {
        if (value instanceof Obj o) {
            return 1000 + o.properties.size();
        }
        if (value == UNDEFINED) {
            return -1;
        }
        if (value == NULL) {
            return -2;
        }
        int payload = toInt(value);
        return parameter == 2 ? (byte) payload : parameter == 3 ? (short) payload : parameter == 4 ? (char) payload : payload;
    }
}
