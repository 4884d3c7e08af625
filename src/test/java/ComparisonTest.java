import java.util.ArrayList;
import java.util.List;
import java.util.Objects;

/** Compares the class with GrammarOracle and ReferenceEngine over made programs; all promises but the smallest edges. */
public final class ComparisonTest {
    private static final int[] RUN = {};

    /** So many questions compareWorlds asks of an object. */
    private static final int LOOKS = 1 + 9 * 20 + 1 + 33 * 3;

    public static void main(String[] args) {
        int first = args.length > 0 ? Integer.parseInt(args[0]) : 1;
        int grammarCount = args.length > 1 ? Integer.parseInt(args[1]) : 300;
        int runCount = args.length > 2 ? Integer.parseInt(args[2]) : 3000;
        int[] answers = new int[3];
        for (int seed = first; seed < first + grammarCount; seed++) {
            compareLoads(new ProgramMaker(seed), answers);
        }
        System.out.println("OK " + answers[0] + ", SYNTAX " + answers[1] + ", LIMIT " + answers[2]);
        for (int answer = 0; answer < 3; answer++) {
            TestKit.due("loads that answer " + answer, answers[answer] > grammarCount / 30, true);
        }
        int[] statuses = new int[5];
        for (int seed = first; seed < first + runCount; seed++) {
            compareRuns(new ProgramMaker(seed), statuses);
        }
        System.out.println("not loaded " + statuses[4] + ", done " + statuses[0] + ", thrown " + statuses[1] + ", stopped " + statuses[2]);
        TestKit.due("some are not loaded", statuses[4] > 0, true);
        TestKit.due("many are done", statuses[0] > runCount / 10, true);
        TestKit.due("many throw", statuses[1] > runCount / 10, true);
        TestKit.due("some stop", statuses[2] > 0, true);
        TestKit.end();
    }

    private static List<int[]> shortened(List<int[]> tokens) {
        int count = 0;
        for (int i = 0; i < tokens.size(); i++) {
            if (tokens.get(i)[0] != 55 && ++count > 160) {
                return tokens.subList(0, i);
            }
        }
        return tokens;
    }

    private static String textOf(List<int[]> tokens) {
        StringBuilder text = new StringBuilder();
        for (int[] token : tokens) {
            text.append(token[0] == 0 ? String.valueOf((char) ('a' + token[1])) : token[0] == 1 ? "" + token[1] : TestKit.TEXTS[token[0]]);
            text.append(' ');
        }
        return text.toString();
    }

    private static BridgedScriptEngine fed(List<int[]> tokens) {
        BridgedScriptEngine engine = new BridgedScriptEngine();
        for (int[] token : tokens) {
            engine.token(token[0], token[1]);
        }
        return engine;
    }

    private static void compareLoads(ProgramMaker maker, int[] answers) {
        List<int[]> whole = shortened(TestKit.tokensOf(maker.program()));
        compareLoad(whole, answers);
        compareLoad(shortened(maker.spoiled(whole)), answers);
        compareLoad(whole.subList(0, maker.below(whole.size() + 1)), answers);
    }

    private static void compareLoad(List<int[]> tokens, int[] answers) {
        BridgedScriptEngine engine = fed(tokens);
        GrammarOracle oracle = new GrammarOracle(tokens);
        answers[oracle.answer]++;
        String text = textOf(tokens);
        TestKit.due("load of " + text, engine.load(), oracle.answer);
        TestKit.due("errorAt of " + text, engine.errorAt(), oracle.place);
    }

    /** What each step leaves is asked of an object of its own: the document promises nothing after 512 calls of one. */
    private static void compareRuns(ProgramMaker maker, int[] statuses) {
        List<int[]> tokens = shortened(TestKit.tokensOf(maker.program()));
        ReferenceEngine reference = new ReferenceEngine();
        addMethods(maker, reference);
        if (prepared(tokens, reference).load() != TestKit.OK) {
            statuses[4]++;
            return;
        }
        reference.load(tokens);
        String text = textOf(tokens);
        List<int[]> steps = new ArrayList<>();
        for (int step = 0; step < 26; step++) {
            int i = step % 13 - 1;
            steps.add(i < 0 ? RUN : madeCall(maker, i));
            BridgedScriptEngine engine = prepared(tokens, reference);
            engine.load();
            int status = 0;
            for (int[] made : steps) {
                status = made == RUN ? engine.run() : engine.call(made[0], made[1], made[2]);
            }
            compareStep(text, steps.get(step), status, reference, statuses);
            compareWorlds("step " + step + " of " + text, engine, reference);
            int asked = tokens.size() + reference.methods.size() + 1 + steps.size() + LOOKS;
            TestKit.due("as many calls as an object is used for", asked <= 512, true);
        }
    }

    private static void addMethods(ProgramMaker maker, ReferenceEngine reference) {
        BridgedScriptEngine engine = new BridgedScriptEngine();
        int count = maker.below(9);
        for (int i = 0; i < count; i++) {
            int first = maker.below(8);
            int[] method = {12 + maker.below(2), first, first == 0 ? 0 : maker.below(8) * maker.below(2), maker.below(5)};
            if (engine.overload(method[0], method[1], method[2], method[3]) >= 0) {
                reference.methods.add(method);
            }
        }
    }

    private static BridgedScriptEngine prepared(List<int[]> tokens, ReferenceEngine reference) {
        BridgedScriptEngine engine = fed(tokens);
        for (int[] method : reference.methods) {
            engine.overload(method[0], method[1], method[2], method[3]);
        }
        return engine;
    }

    private static int[] madeCall(ProgramMaker maker, int i) {
        int f = i < 3 ? 5 + i : maker.below(9);
        int a = maker.below(6) - 1;
        int b = maker.below(3) == 0 ? Integer.MIN_VALUE : maker.below(4);
        return new int[] {f, a, b};
    }

    private static void compareStep(String text, int[] step, int status, ReferenceEngine reference, int[] statuses) {
        if (step == RUN) {
            statuses[status]++;
            TestKit.due("run of " + text, status, reference.run());
        } else {
            String what = "call " + step[0] + " " + step[1] + " " + step[2] + " after " + text;
            TestKit.due(what, status, reference.call(step[0], step[1], step[2]));
        }
    }

    private static void compareWorlds(String what, BridgedScriptEngine engine, ReferenceEngine reference) {
        TestKit.due("result, " + what, engine.result(), reference.shown(reference.result));
        for (int g = 0; g < 9; g++) {
            Object value = reference.globals.get(g);
            TestKit.due("global " + g + ", " + what, engine.global(g), reference.shown(value));
            ReferenceEngine.Obj object = value instanceof ReferenceEngine.Obj o ? o : new ReferenceEngine.Obj();
            Integer[] names = object.properties.keySet().toArray(new Integer[0]);
            for (int i = 0; i < 5; i++) {
                TestKit.due("prop " + g + " " + i + ", " + what, engine.prop(g, i), reference.shown(object.properties.get(i)));
                TestKit.due("propName " + g + " " + i + ", " + what, engine.propName(g, i), i < names.length ? names[i] : -1);
            }
            for (int h = 0; h < 9; h++) {
                boolean same = value instanceof ReferenceEngine.Obj && Objects.equals(value, reference.globals.get(h));
                TestKit.due("same " + g + " " + h + ", " + what, engine.same(g, h), same);
            }
        }
        int count = reference.trace.size();
        TestKit.due("traceCount, " + what, engine.traceCount(), count);
        for (int k = 0; k < 33; k++) {
            boolean there = k < 32 && k < count;
            long[] row = there ? reference.trace.get(count - 1 - k) : new long[] {-1, 0, 0};
            TestKit.due("traceMethod " + k + ", " + what, engine.traceMethod(k), row[0]);
            TestKit.due("first " + k + ", " + what, engine.traceArg(k, 0), row[1]);
            TestKit.due("second " + k + ", " + what, engine.traceArg(k, 1), row[2]);
        }
    }
}
