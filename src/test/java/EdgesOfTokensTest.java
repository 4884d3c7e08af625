import java.util.List;

/** The edges of "What it is", of TOKENS and of the promises 1, 2 and 3, a sentence at a time. */
public final class EdgesOfTokensTest {
    private static final int F = TestKit.name('f');
    private static final int BUSY_TOKENS = 24;
    private static final int[] FAR = {Integer.MIN_VALUE, Integer.MIN_VALUE + 1, Integer.MAX_VALUE - 1, Integer.MAX_VALUE};

    /** For each operator an expression that no other operator of the table answers alike. */
    private static final Object[][] OPERATORS = {
        {"5 || 6", TestKit.num(5)}, {"5 && 6", TestKit.num(6)}, {"12 | 10", TestKit.num(14)}, {"12 ^ 10", TestKit.num(6)},
        {"12 & 10", TestKit.num(8)}, {"true == 1", TestKit.bool(true)}, {"true != 1", TestKit.bool(false)},
        {"true === 1", TestKit.bool(false)}, {"true !== 1", TestKit.bool(true)}, {"2 < 3", TestKit.bool(true)},
        {"3 > 2", TestKit.bool(true)}, {"2 <= 2", TestKit.bool(true)}, {"2 >= 2", TestKit.bool(true)},
        {"2 < 2", TestKit.bool(false)}, {"2 > 2", TestKit.bool(false)}, {"3 <= 2", TestKit.bool(false)},
        {"2 >= 3", TestKit.bool(false)}, {"-9 << 2", TestKit.num(-36)}, {"-9 >> 2", TestKit.num(-3)},
        {"-9 >>> 2", TestKit.num(-9 >>> 2)}, {"9 + 4", TestKit.num(13)}, {"9 - 4", TestKit.num(5)},
        {"9 * 4", TestKit.num(36)}, {"9 / 4", TestKit.num(2)}, {"9 % 4", TestKit.num(1)}, {"!9", TestKit.bool(false)},
        {"~9", TestKit.num(-10)}, {"-9", TestKit.num(-9)}, {"0 ? 1 : 2", TestKit.num(2)}, {"a = 4", TestKit.num(4)},
        {"b += 4", TestKit.num(13)}, {"b -= 4", TestKit.num(5)}, {"b *= 4", TestKit.num(36)}, {"b &= 12", TestKit.num(8)},
        {"true", TestKit.bool(true)}, {"false", TestKit.bool(false)}, {"null", TestKit.NULL}, {"undefined", TestKit.UNDEFINED}
    };

    public static void main(String[] args) {
        theLastCall();
        theLargestTrace();
        manySources();
        names();
        numbers();
        meaningOfEachKind();
        lineEnds();
        aNewObject();
        kindsOutside();
        namesAndNumbersOutside();
        aFullSource();
        valuesNotLookedAt();
        theEndOfBeingLoaded();
        wiping();
        wipingALineEnd();
        TestKit.end();
    }

    private static void theLastCall() {
        TestKit.sentence("An object is used for at most 512 calls after it has been made");
        BridgedScriptEngine engine = new BridgedScriptEngine();
        engine.overload(12, 5, 5, 2);
        String source = "n = 0; function f(a, b) { n += 1; o.p = a; host.m(a, b); return n } o = {}";
        TestKit.feed(engine, source);
        int made = 1 + TestKit.tokensOf(source).size();
        TestKit.due("load", engine.load(), TestKit.OK);
        TestKit.due("run", engine.run(), TestKit.DONE);
        made += 2;
        int calls = 0;
        while (made < 511) {
            TestKit.due("call " + made, engine.call(F, calls, -calls), TestKit.DONE);
            calls++;
            made++;
        }
        TestKit.due("the 512th call", engine.result(), TestKit.num(calls));
    }

    private static void theLargestTrace() {
        BridgedScriptEngine engine = new BridgedScriptEngine();
        engine.overload(12, 0, 0, 0);
        String source = "function f() { while (true) { " + TestKit.times("host.m();", 24) + "} }";
        TestKit.feed(engine, source);
        int made = 1 + TestKit.tokensOf(source).size();
        TestKit.due("load", engine.load(), TestKit.OK);
        TestKit.due("run", engine.run(), TestKit.DONE);
        made += 2;
        int calls = 0;
        while (made < 511) {
            TestKit.due("call " + made, engine.call(F, 0, 0), TestKit.STOPPED);
            calls++;
            made++;
        }
        TestKit.due("the 512th call", engine.traceCount(), calls * 63 * 24);
    }

    private static void manySources() {
        BridgedScriptEngine engine = new BridgedScriptEngine();
        for (int round = 0; round < 3; round++) {
            TestKit.feed(engine, TestKit.times("a = 1;", 40));
            TestKit.due("load", engine.load(), TestKit.OK);
            TestKit.due("run", engine.run(), TestKit.DONE);
            TestKit.due("wipe", engine.wipe(), 160);
        }
        for (int made = 3 * 163; made < 511; made++) {
            TestKit.due("load " + made, engine.load(), TestKit.OK);
        }
        TestKit.due("the 512th call", engine.run(), TestKit.DONE);
        BridgedScriptEngine again = TestKit.fed(TestKit.times("a += 1;", 39) + "var a");
        for (int made = 158; made < 510; made++) {
            TestKit.due("load " + made, again.load(), TestKit.OK);
        }
        TestKit.due("run", again.run(), TestKit.DONE);
        TestKit.due("the 512th call", again.global(0), TestKit.num(39));
    }

    private static void names() {
        TestKit.sentence("0 NAME (value 0..25)");
        StringBuilder source = new StringBuilder();
        for (char letter = 'a'; letter <= 'z'; letter++) {
            source.append(letter).append(" = ").append(letter - 'a' + 100).append('\n');
        }
        BridgedScriptEngine engine = TestKit.ran(source.toString());
        for (int g = 0; g < 26; g++) {
            TestKit.due("name " + g, engine.global(g), TestKit.num(g + 100));
        }
    }

    private static void numbers() {
        TestKit.sentence("1 NUMBER (value >= 0)");
        TestKit.yields("0", TestKit.num(0));
        TestKit.yields("1", TestKit.num(1));
        TestKit.yields("2147483646", TestKit.num(Integer.MAX_VALUE - 1));
        TestKit.yields("2147483647", TestKit.num(Integer.MAX_VALUE));
    }

    private static void meaningOfEachKind() {
        TestKit.sentence("TOKENS: a kind and, for kinds 0 and 1, a value.");
        boolean[] used = new boolean[56];
        for (Object[] row : OPERATORS) {
            use(used, (String) row[0]);
            TestKit.leaves("b = 9; r = " + row[0], (Long) row[1]);
        }
        String[] words = {
            "var r = 1;", "function f(a, b) { return b } r = f(0, 1)", "if (0) r = 2; else r = 1", "while (true) { r = 1; break }",
            "r = 0; while (r < 1) { r += 1; continue; r = 5 }", "try { throw 1 } catch (r) { }", "o = { p : 1 }; r = o.p"
        };
        for (String word : words) {
            use(used, word);
            TestKit.leaves(word, TestKit.num(1));
        }
        use(used, "host\n");
        BridgedScriptEngine engine = new BridgedScriptEngine();
        engine.overload(12, 0, 0, 2);
        TestKit.feed(engine, "r = host.m()");
        TestKit.due("load", engine.load(), TestKit.OK);
        TestKit.due("run", engine.run(), TestKit.DONE);
        TestKit.due("r", TestKit.global(engine, 'r'), TestKit.num(1));
        for (int kind = 0; kind <= 55; kind++) {
            TestKit.due("kind " + kind + " is used here", used[kind], true);
        }
    }

    private static void use(boolean[] used, String source) {
        for (int[] token : TestKit.tokensOf(source)) {
            used[token[0]] = true;
        }
    }

    private static void lineEnds() {
        TestKit.sentence("Kind 55 is a line end: it is no token, it only marks that the next token stands after a line end.");
        TestKit.due("line ends are not counted", TestKit.fed("\na\n\nb\n\n\n").wipe(), 2);
        TestKit.refuses("a b", TestKit.SYNTAX, 1);
        TestKit.loads("a\nb");
        TestKit.loads("a\n\n\nb");
        TestKit.refuses("a\nb c", TestKit.SYNTAX, 2);
        TestKit.refuses("a\n\nb c", TestKit.SYNTAX, 2);
        TestKit.refuses("\na b", TestKit.SYNTAX, 1);
        TestKit.refuses("a b\n", TestKit.SYNTAX, 1);
        TestKit.refuses("a\n) ", TestKit.SYNTAX, 1);
        TestKit.refuses("(a\n", TestKit.SYNTAX, 2);
        TestKit.loads("\n\n");
    }

    private static void aNewObject() {
        TestKit.sentence("No source, no host methods, nothing loaded, no globals, result UNDEFINED, host memory 0.");
        TestKit.due("no source", new BridgedScriptEngine().wipe(), 0);
        TestKit.due("no host methods", new BridgedScriptEngine().overload(0, 0, 0, 0), 0);
        TestKit.due("nothing loaded: run", new BridgedScriptEngine().run(), TestKit.NOT_LOADED);
        TestKit.due("nothing loaded: call", new BridgedScriptEngine().call(0, 0, 0), TestKit.NOT_LOADED);
        BridgedScriptEngine engine = new BridgedScriptEngine();
        for (int g = 0; g < 26; g++) {
            TestKit.due("global " + g, engine.global(g), TestKit.ABSENT);
        }
        TestKit.due("result", engine.result(), TestKit.UNDEFINED);
        TestKit.due("errorAt", engine.errorAt(), -1);
        TestKit.due("traceCount", engine.traceCount(), 0);
        engine.overload(12, 0, 0, 2);
        TestKit.feed(engine, "r = host.m()");
        TestKit.due("load", engine.load(), TestKit.OK);
        TestKit.due("run", engine.run(), TestKit.DONE);
        TestKit.due("host memory 0 becomes 0 * 31 + 0 + 0 + 0 + 1", TestKit.global(engine, 'r'), TestKit.num(1));
        TestKit.due("the empty source loads", new BridgedScriptEngine().load(), TestKit.OK);
    }

    /** An object that is loaded, has run, and has something in all that can be seen. */
    private static BridgedScriptEngine busy() {
        BridgedScriptEngine engine = new BridgedScriptEngine();
        engine.overload(12, 5, 0, 0);
        TestKit.feed(engine, "o = {p : 1}; host.m(4); function f(a) { return o }");
        TestKit.due("load", engine.load(), TestKit.OK);
        TestKit.due("run", engine.run(), TestKit.DONE);
        TestKit.due("call", engine.call(F, 0, 0), TestKit.DONE);
        return engine;
    }

    private static void refused(int[][] tokens) {
        BridgedScriptEngine engine = busy();
        List<Long> before = TestKit.seen(engine);
        for (int[] token : tokens) {
            TestKit.due("token " + token[0] + " " + token[1], engine.token(token[0], token[1]), false);
        }
        TestKit.unchanged("after refused tokens", engine, before);
        TestKit.due("still loaded", engine.call(F, 0, 0), TestKit.DONE);
        TestKit.due("no token more", engine.wipe(), BUSY_TOKENS);
        for (String line : new String[] {"\n", ""}) {
            BridgedScriptEngine pending = TestKit.fed("a" + line);
            for (int[] token : tokens) {
                TestKit.due("token " + token[0] + " " + token[1], pending.token(token[0], token[1]), false);
            }
            TestKit.feed(pending, "b");
            TestKit.due("a line end pends as before", pending.load(), line.isEmpty() ? TestKit.SYNTAX : TestKit.OK);
        }
    }

    private static void kindsOutside() {
        TestKit.sentence("Refused (false, nothing changes) if kind is outside 0..55");
        refused(new int[][] {{-1, 0}, {56, 0}, {57, 0}, {-2, 0}, {FAR[0], 0}, {FAR[1], 0}, {FAR[2], 0}, {FAR[3], 0}});
        BridgedScriptEngine engine = new BridgedScriptEngine();
        TestKit.due("kind 0", engine.token(0, 0), true);
        TestKit.due("kind 54", engine.token(54, 0), true);
        TestKit.due("kind 55", engine.token(55, 0), true);
    }

    private static void namesAndNumbersOutside() {
        TestKit.sentence("if kind is 0 and value outside 0..25, if kind is 1 and value negative");
        refused(new int[][] {{0, -1}, {0, 26}, {0, FAR[0]}, {0, FAR[1]}, {0, FAR[2]}, {0, FAR[3]}});
        refused(new int[][] {{1, -1}, {1, -2}, {1, FAR[0]}, {1, FAR[1]}});
        BridgedScriptEngine engine = new BridgedScriptEngine();
        TestKit.due("name 0", engine.token(0, 0), true);
        TestKit.due("name 25", engine.token(0, 25), true);
        TestKit.due("number 0", engine.token(1, 0), true);
        TestKit.due("number 26", engine.token(1, 26), true);
        TestKit.due("the greatest number", engine.token(1, Integer.MAX_VALUE), true);
        TestKit.due("all five are there", engine.wipe(), 5);
    }

    private static void aFullSource() {
        TestKit.sentence("if the source holds 160 tokens already (then 55 is refused too)");
        BridgedScriptEngine engine = TestKit.fed(TestKit.times(";", 159));
        TestKit.due("a line end after 159", engine.token(55, 0), true);
        TestKit.due("token 160", engine.token(2, 0), true);
        TestKit.due("load", engine.load(), TestKit.OK);
        for (int kind = 0; kind <= 55; kind++) {
            TestKit.due("kind " + kind + " after 160", engine.token(kind, 0), false);
        }
        TestKit.due("still loaded", engine.run(), TestKit.DONE);
        TestKit.due("160 and no more", engine.wipe(), 160);
        TestKit.due("room again", engine.token(2, 0), true);
        BridgedScriptEngine lines = TestKit.fed(TestKit.times("\n", 200) + ";");
        TestKit.due("line ends take no room", lines.wipe(), 1);
    }

    private static void valuesNotLookedAt() {
        TestKit.sentence("For other kinds value is not looked at.");
        for (int value : new int[] {-1, 26, FAR[0], FAR[3]}) {
            BridgedScriptEngine engine = new BridgedScriptEngine();
            for (int kind = 2; kind <= 55; kind++) {
                TestKit.due("kind " + kind + " with " + value, engine.token(kind, value), true);
            }
            BridgedScriptEngine program = new BridgedScriptEngine();
            for (int[] token : TestKit.tokensOf("function f(a) { return a ? true : null }\nr = f(7) && {p : -1} && !false")) {
                program.token(token[0], token[0] < 2 ? token[1] : value);
            }
            TestKit.due("load", program.load(), TestKit.OK);
            TestKit.due("run", program.run(), TestKit.DONE);
            TestKit.due("r", TestKit.global(program, 'r'), TestKit.bool(true));
        }
    }

    private static void theEndOfBeingLoaded() {
        TestKit.sentence("An accepted call (55 too) ends the state of being loaded; globals and everything else stay as they are.");
        for (int kind : new int[] {55, 2, 0, 1}) {
            BridgedScriptEngine engine = busy();
            List<Long> before = TestKit.seen(engine);
            TestKit.due("token " + kind, engine.token(kind, 3), true);
            TestKit.due("run", engine.run(), TestKit.NOT_LOADED);
            TestKit.due("call", engine.call(F, 0, 0), TestKit.NOT_LOADED);
            TestKit.unchanged("after a token of kind " + kind, engine, before);
            TestKit.due("the method stays", engine.overload(12, 5, 0, 0), -1);
            TestKit.due("the tokens", engine.wipe(), kind == 55 ? BUSY_TOKENS : BUSY_TOKENS + 1);
        }
    }

    private static void wiping() {
        TestKit.sentence("nothing is loaded any more; all else stays. Answers the number of tokens removed.");
        BridgedScriptEngine engine = busy();
        List<Long> before = TestKit.seen(engine);
        TestKit.due("wipe", engine.wipe(), BUSY_TOKENS);
        TestKit.due("run", engine.run(), TestKit.NOT_LOADED);
        TestKit.due("call", engine.call(F, 0, 0), TestKit.NOT_LOADED);
        TestKit.due("wipe again", engine.wipe(), 0);
        TestKit.unchanged("after a wipe", engine, before);
        TestKit.due("the method stays", engine.overload(12, 5, 0, 0), -1);
        TestKit.due("its number too", engine.overload(12, 0, 0, 0), 1);
        BridgedScriptEngine wrong = TestKit.fed("a + )");
        TestKit.due("load", wrong.load(), TestKit.SYNTAX);
        TestKit.due("wipe", wrong.wipe(), 3);
        TestKit.due("errorAt stays", wrong.errorAt(), 2);
        TestKit.due("one token", TestKit.fed("a").wipe(), 1);
        TestKit.due("line ends alone", TestKit.fed("\n\n").wipe(), 0);
        BridgedScriptEngine empty = new BridgedScriptEngine();
        TestKit.due("load of nothing", empty.load(), TestKit.OK);
        TestKit.due("wipe of nothing", empty.wipe(), 0);
        TestKit.due("not loaded even so", empty.run(), TestKit.NOT_LOADED);
    }

    /** The line end itself can't be seen any more: before a first token it makes no difference. */
    private static void wipingALineEnd() {
        TestKit.sentence("Empties the source (pending line end too)");
        BridgedScriptEngine engine = TestKit.fed("throw\n");
        TestKit.due("wipe", engine.wipe(), 1);
        TestKit.feed(engine, "a b");
        TestKit.due("load", engine.load(), TestKit.SYNTAX);
        TestKit.due("errorAt", engine.errorAt(), 1);
        TestKit.due("wipe", engine.wipe(), 2);
        TestKit.due("nothing is left of it", engine.load(), TestKit.OK);
    }
}
