/** Promises 2 and 3: token and wipe. */
public final class TokenTest {
    public static void main(String[] args) {
        refusedTokens();
        acceptedTokens();
        fullSource();
        endOfBeingLoaded();
        lineEnds();
        wiping();
        TestKit.end();
    }

    private static void refusedTokens() {
        BridgedScriptEngine engine = TestKit.loaded("a = 1");
        int[][] wrong = {
            {-1, 0}, {56, 0}, {Integer.MIN_VALUE, 0}, {Integer.MAX_VALUE, 0},
            {0, -1}, {0, 26}, {0, Integer.MIN_VALUE}, {0, Integer.MAX_VALUE}, {1, -1}, {1, Integer.MIN_VALUE}
        };
        for (int[] token : wrong) {
            TestKit.due("token " + token[0] + " " + token[1], engine.token(token[0], token[1]), false);
        }
        TestKit.due("still loaded", engine.run(), TestKit.DONE);
        TestKit.due("tokens", engine.wipe(), 3);
    }

    private static void acceptedTokens() {
        BridgedScriptEngine engine = new BridgedScriptEngine();
        TestKit.due("name 0", engine.token(0, 0), true);
        TestKit.due("name 25", engine.token(0, 25), true);
        TestKit.due("number 0", engine.token(1, 0), true);
        TestKit.due("greatest number", engine.token(1, Integer.MAX_VALUE), true);
        for (int kind = 2; kind <= 54; kind++) {
            TestKit.due("kind " + kind, engine.token(kind, -1 - kind), true);
        }
        TestKit.due("line end", engine.token(55, -1), true);
        TestKit.due("tokens without the line end", engine.wipe(), 57);
        TestKit.yields("2147483647", TestKit.num(Integer.MAX_VALUE));
    }

    private static void fullSource() {
        BridgedScriptEngine engine = new BridgedScriptEngine();
        TestKit.feed(engine, TestKit.times(";", 160));
        TestKit.due("load of 160 tokens", engine.load(), TestKit.OK);
        TestKit.due("token 161", engine.token(2, 0), false);
        TestKit.due("line end after 160", engine.token(55, 0), false);
        TestKit.due("still loaded", engine.run(), TestKit.DONE);
        TestKit.due("wipe", engine.wipe(), 160);
        TestKit.due("token after wipe", engine.token(2, 0), true);

        BridgedScriptEngine lines = new BridgedScriptEngine();
        TestKit.feed(lines, TestKit.times("\n;\n", 159) + "\n;");
        TestKit.due("line ends take no room", lines.wipe(), 160);
    }

    private static void endOfBeingLoaded() {
        BridgedScriptEngine engine = TestKit.ran("function f() { return 1 } a = { b : 2 }\n c = 3");
        TestKit.due("call", engine.call(TestKit.name('f'), 0, 0), TestKit.DONE);
        TestKit.due("line end", engine.token(55, 0), true);
        TestKit.due("run", engine.run(), TestKit.NOT_LOADED);
        TestKit.due("call when not loaded", engine.call(TestKit.name('f'), 0, 0), TestKit.NOT_LOADED);
        TestKit.due("call out of range when not loaded", engine.call(77, 0, 0), TestKit.NOT_LOADED);
        TestKit.due("result stays", engine.result(), TestKit.num(1));
        TestKit.due("global stays", TestKit.global(engine, 'c'), TestKit.num(3));
        TestKit.due("object stays", engine.prop(0, 1), TestKit.num(2));
        TestKit.due("load", engine.load(), TestKit.OK);
        TestKit.due("loaded again", engine.run(), TestKit.DONE);
        TestKit.due("token", engine.token(2, 0), true);
        TestKit.due("run after token", engine.run(), TestKit.NOT_LOADED);
        TestKit.due("object still stays", engine.prop(0, 1), TestKit.num(2));
    }

    private static void lineEnds() {
        TestKit.loads("\n\n\na\n\n\nb\n\n\n");
        TestKit.refuses("a b", TestKit.SYNTAX, 1);
        BridgedScriptEngine engine = TestKit.fed("a\n");
        TestKit.due("load", engine.load(), TestKit.OK);
        TestKit.feed(engine, "b");
        TestKit.due("the line end outlives a load", engine.load(), TestKit.OK);
        TestKit.feed(engine, "c");
        TestKit.due("one line end marks one token", engine.load(), TestKit.SYNTAX);
        TestKit.due("errorAt", engine.errorAt(), 2);
        BridgedScriptEngine refused = TestKit.fed("a\n");
        TestKit.due("refused", refused.token(0, 26), false);
        TestKit.feed(refused, "b");
        TestKit.due("a refused token does not use the line end up", refused.load(), TestKit.OK);
    }

    private static void wiping() {
        BridgedScriptEngine engine = TestKit.fed("a = 1 +");
        engine.overload(3, 0, 0, 2);
        TestKit.due("load", engine.load(), TestKit.SYNTAX);
        TestKit.due("wipe", engine.wipe(), 4);
        TestKit.due("wipe again", engine.wipe(), 0);
        TestKit.due("errorAt stays", engine.errorAt(), 4);
        TestKit.feed(engine, "a = host.d()\nb = { }\nfunction f() { return b }\n");
        TestKit.due("load", engine.load(), TestKit.OK);
        TestKit.due("run", engine.run(), TestKit.DONE);
        TestKit.due("call", engine.call(5, 0, 0), TestKit.DONE);
        TestKit.due("wipe after run", engine.wipe(), 19);
        TestKit.due("run after wipe", engine.run(), TestKit.NOT_LOADED);
        TestKit.due("call after wipe", engine.call(5, 0, 0), TestKit.NOT_LOADED);
        TestKit.due("global stays", TestKit.global(engine, 'a'), TestKit.num(1));
        TestKit.due("result stays", engine.result(), TestKit.obj(0));
        TestKit.due("trace stays", engine.traceCount(), 1);
        TestKit.due("methods stay", engine.overload(3, 0, 0, 2), -1);
        TestKit.feed(engine, "a\n");
        TestKit.due("wipe with a line end pending", engine.wipe(), 1);
        TestKit.feed(engine, "throw");
        engine.wipe();
        TestKit.feed(engine, "a\n");
        engine.wipe();
        TestKit.feed(engine, "b");
        TestKit.due("load", engine.load(), TestKit.OK);
        BridgedScriptEngine pending = TestKit.fed("\n");
        pending.wipe();
        TestKit.feed(pending, "a");
        TestKit.feed(pending, "b");
        TestKit.due("no line end is left", pending.load(), TestKit.SYNTAX);
    }
}
