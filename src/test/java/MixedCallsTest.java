import java.util.ArrayList;
import java.util.List;

/** Asks each object 512 made calls of every kind in a made order, and compares every answer with a model's. */
public final class MixedCallsTest {
    private static final int CALLS = 512;
    private static final int MOST_TOKENS = 160;

    private final ProgramMaker maker;
    private final long seed;
    private final BridgedScriptEngine engine = new BridgedScriptEngine();
    private int calls;

    private final List<int[]> fed = new ArrayList<>();
    private boolean loaded;
    private int errorPlace = -1;
    private ReferenceEngine world = new ReferenceEngine();

    private MixedCallsTest(long seed) {
        this.seed = seed;
        this.maker = new ProgramMaker(seed);
    }

    public static void main(String[] args) {
        int first = args.length > 0 ? Integer.parseInt(args[0]) : 1;
        int count = args.length > 1 ? Integer.parseInt(args[1]) : 400;
        int[] answers = new int[8];
        for (int seed = first; seed < first + count; seed++) {
            new MixedCallsTest(seed).mix(answers);
        }
        System.out.println("loads OK " + answers[0] + ", SYNTAX " + answers[1] + ", LIMIT " + answers[2] + "; done " + answers[3]
            + ", thrown " + answers[4] + ", stopped " + answers[5] + ", not loaded " + answers[6] + ", no function " + answers[7]);
        for (int answer = 0; answer < answers.length; answer++) {
            TestKit.due("some calls have each answer, " + answer, answers[answer] > 0, true);
        }
        TestKit.end();
    }

    private void mix(int[] answers) {
        for (int i = maker.below(12); i > 0; i--) {
            overload();
        }
        while (calls < CALLS) {
            int choice = maker.below(120);
            if (choice < (loaded ? 2 : 30)) {
                feedProgram(answers);
            } else if (choice < 32) {
                changeSource();
            } else if (choice < 40) {
                overload();
            } else if (choice < 43) {
                load(answers);
            } else if (choice < 50) {
                run(answers);
            } else if (choice < 70) {
                call(answers);
            } else {
                look();
            }
        }
    }

    private void due(String call, long got, long want) {
        calls++;
        TestKit.due("seed " + seed + ", call " + calls + ", " + call, got, want);
    }

    // ---- the source ----

    private int tokenCount() {
        return (int) fed.stream().filter(token -> token[0] != 55).count();
    }

    private void token(int kind, int value) {
        boolean fits = kind >= 0 && kind <= 55 && tokenCount() < MOST_TOKENS;
        boolean valueFits = kind == 0 ? value >= 0 && value <= 25 : kind != 1 || value >= 0;
        boolean taken = fits && valueFits;
        due("token " + kind + " " + value, engine.token(kind, value) ? 1 : 0, taken ? 1 : 0);
        if (taken) {
            fed.add(new int[] {kind, value});
            loaded = false;
        }
    }

    /** Mostly with a token that is refused, for an accepted one ends the state of being loaded. */
    private void changeSource() {
        switch (maker.below(20)) {
            case 0: wipe(); break;
            case 1: token(maker.below(56), maker.below(26)); break;
            case 2: token(55, 0); break;
            case 3: token(maker.below(2) * 57 - 1, 0); break;
            default: token(maker.below(2), -1 - maker.below(3)); break;
        }
    }

    private void wipe() {
        due("wipe", engine.wipe(), tokenCount());
        fed.clear();
        loaded = false;
    }

    private void feedProgram(int[] answers) {
        wipe();
        List<int[]> tokens = TestKit.tokensOf(maker.program());
        if (maker.below(5) == 0) {
            tokens = maker.spoiled(tokens);
        }
        for (int[] token : tokens) {
            if (calls < CALLS) {
                token(token[0], token[1]);
            }
        }
        if (calls + 1 < CALLS && maker.below(8) > 0) {
            load(answers);
            run(answers);
        }
    }

    private void load(int[] answers) {
        GrammarOracle oracle = new GrammarOracle(fed);
        due("load", engine.load(), oracle.answer);
        answers[oracle.answer]++;
        loaded = oracle.answer == TestKit.OK;
        errorPlace = oracle.place;
        List<int[]> methods = world.methods;
        world = new ReferenceEngine();
        world.methods.addAll(methods);
        if (loaded) {
            world.load(fed);
        }
    }

    // ---- the world ----

    private void overload() {
        int name = maker.below(8) > 0 ? 12 + maker.below(2) : maker.below(28) - 1;
        int[] method = {name, maker.below(8), maker.below(2) * maker.below(8), maker.below(5)};
        if (maker.below(8) == 0) {
            method[1 + maker.below(3)] = maker.below(12) - 2;
        }
        boolean fits = name >= 0 && name <= 25 && method[1] >= 0 && method[1] <= 7 && method[2] >= 0 && method[2] <= 7
            && (method[1] != 0 || method[2] == 0) && method[3] >= 0 && method[3] <= 4 && world.methods.size() < 12;
        for (int[] other : world.methods) {
            fits &= other[0] != name || other[1] != method[1] || other[2] != method[2];
        }
        String call = "overload " + name + " " + method[1] + " " + method[2] + " " + method[3];
        due(call, engine.overload(name, method[1], method[2], method[3]), fits ? world.methods.size() : -1);
        if (fits) {
            world.methods.add(method);
        }
    }

    private void run(int[] answers) {
        int want = loaded ? world.run() : TestKit.NOT_LOADED;
        answers[3 + want]++;
        due("run", engine.run(), want);
    }

    private void call(int[] answers) {
        int f = maker.below(3) == 0 ? maker.below(30) - 2 : 5 + maker.below(4);
        int a = maker.below(6) - 1;
        int b = maker.below(4) == 0 ? Integer.MIN_VALUE : maker.below(5);
        int want = loaded ? world.call(f, a, b) : TestKit.NOT_LOADED;
        answers[3 + want]++;
        due("call " + f + " " + a + " " + b, engine.call(f, a, b), want);
    }

    // ---- the looks ----

    private int anyName() {
        return maker.below(4) > 0 ? maker.below(9) : maker.below(30) - 2;
    }

    private void look() {
        int g = anyName();
        int h = anyName();
        Object value = world.globals.get(g);
        ReferenceEngine.Obj object = value instanceof ReferenceEngine.Obj o ? o : new ReferenceEngine.Obj();
        switch (maker.below(9)) {
            case 0: due("result", engine.result(), world.shown(world.result)); break;
            case 1: due("errorAt", engine.errorAt(), errorPlace); break;
            case 2: due("global " + g, engine.global(g), world.shown(value)); break;
            case 3: due("prop " + g + " " + h, engine.prop(g, h), world.shown(object.properties.get(h))); break;
            case 4: lookAtPropertyName(g, object); break;
            case 5:
                boolean same = value instanceof ReferenceEngine.Obj && value == world.globals.get(h);
                due("same " + g + " " + h, engine.same(g, h) ? 1 : 0, same ? 1 : 0);
                break;
            case 6: due("traceCount", engine.traceCount(), world.trace.size()); break;
            default: lookAtTrace(); break;
        }
    }

    private void lookAtPropertyName(int g, ReferenceEngine.Obj object) {
        Integer[] names = object.properties.keySet().toArray(new Integer[0]);
        int i = maker.below(6) - 1;
        due("propName " + g + " " + i, engine.propName(g, i), i >= 0 && i < names.length ? names[i] : -1);
    }

    private void lookAtTrace() {
        int count = world.trace.size();
        int k = maker.below(2) == 0 ? maker.below(4) : maker.below(36) - 2;
        boolean there = k >= 0 && k < 32 && k < count;
        long[] row = there ? world.trace.get(count - 1 - k) : new long[] {-1, 0, 0};
        int which = maker.below(6) - 1;
        if (which > 2) {
            due("traceMethod " + k, engine.traceMethod(k), row[0]);
        } else {
            due("traceArg " + k + " " + which, engine.traceArg(k, which), which == 0 || which == 1 ? row[1 + which] : 0);
        }
    }
}
