/** Promises 4, 14, 15 and 16: host methods, how one is chosen, what it does, and the trace. */
public final class HostTest {
    private static final int NONE = 0;
    private static final int BOOLEAN = 1;
    private static final int BYTE = 2;
    private static final int SHORT = 3;
    private static final int CHAR = 4;
    private static final int INT = 5;
    private static final int LONG = 6;
    private static final int ANY = 7;
    private static final int M = TestKit.name('m');

    /** Ranks by kind of the argument and of the parameter; 0 does not fit. */
    private static final String[] VALUES = {"undefined", "null", "true", "5", "{}", "e"};
    private static final int[][] RANKS = {
        {0, 0, 0, 0, 0, 0, 0, 1}, {0, 0, 0, 0, 0, 0, 0, 1}, {0, 1, 0, 0, 0, 3, 0, 2},
        {0, 0, 5, 3, 4, 1, 2, 6}, {0, 0, 0, 0, 0, 0, 0, 1}, {0, 0, 0, 0, 0, 2, 0, 1}
    };

    public static void main(String[] args) {
        refusedMethods();
        numbersOfMethods();
        oneArgument();
        pairsOfMethods();
        twoArguments();
        severalMethods();
        numbersOfArguments();
        conversions();
        resultsAndMemory();
        traces();
        traceAcrossWorlds();
        TestKit.end();
    }

    private static BridgedScriptEngine with(String source, int[]... methods) {
        BridgedScriptEngine engine = new BridgedScriptEngine();
        for (int i = 0; i < methods.length; i++) {
            int[] m = methods[i];
            TestKit.due("overload " + i, engine.overload(m[0], m[1], m[2], m[3]), i);
        }
        TestKit.feed(engine, source);
        TestKit.due("load of " + source, engine.load(), TestKit.OK);
        return engine;
    }

    private static void refusedMethods() {
        BridgedScriptEngine engine = new BridgedScriptEngine();
        int[][] wrong = {
            {-1, 0, 0, 0}, {26, 0, 0, 0}, {0, -1, 0, 0}, {0, 8, 0, 0}, {0, 1, -1, 0}, {0, 1, 8, 0},
            {0, 0, 1, 0}, {0, 0, 7, 0}, {0, 0, 0, -1}, {0, 0, 0, 5},
            {Integer.MIN_VALUE, 0, 0, 0}, {0, Integer.MAX_VALUE, 0, 0}, {0, 1, Integer.MIN_VALUE, 0}, {0, 0, 0, Integer.MAX_VALUE}
        };
        for (int[] m : wrong) {
            TestKit.due("overload " + m[0] + " " + m[1] + " " + m[2] + " " + m[3], engine.overload(m[0], m[1], m[2], m[3]), -1);
        }
        TestKit.due("first", engine.overload(0, 0, 0, 0), 0);
        TestKit.due("the same with another result", engine.overload(0, 0, 0, 4), -1);
        TestKit.due("another first", engine.overload(0, 7, 0, 0), 1);
        TestKit.due("another second", engine.overload(0, 7, 7, 0), 2);
        TestKit.due("the same again", engine.overload(0, 7, 7, 3), -1);
        TestKit.due("another name", engine.overload(25, 7, 7, 0), 3);
    }

    private static void numbersOfMethods() {
        BridgedScriptEngine engine = TestKit.loaded("r = host.d()");
        for (int i = 0; i < 12; i++) {
            TestKit.due("method " + i, engine.overload(i, 0, 0, 2), i);
        }
        TestKit.due("method 12", engine.overload(20, 0, 0, 2), -1);
        TestKit.due("a known one", engine.overload(0, 0, 0, 2), -1);
        TestKit.due("still loaded", engine.run(), TestKit.DONE);
        TestKit.due("r", TestKit.global(engine, 'r'), TestKit.num(4));
        TestKit.due("number", engine.traceMethod(0), 3);
        BridgedScriptEngine later = TestKit.ran("function f() { return host.m() }");
        TestKit.due("call", later.call(TestKit.name('f'), 0, 0), TestKit.THROWN);
        TestKit.due("result", later.result(), TestKit.err(5));
        TestKit.due("overload", later.overload(M, 0, 0, 4), 0);
        TestKit.due("call", later.call(TestKit.name('f'), 0, 0), TestKit.DONE);
        TestKit.due("result", later.result(), TestKit.NULL);
    }

    private static void oneArgument() {
        for (int value = 0; value < VALUES.length; value++) {
            for (int kind = BOOLEAN; kind <= ANY; kind++) {
                String source = "try { z } catch (e) {} host.m(" + VALUES[value] + ")";
                BridgedScriptEngine engine = with(source, new int[] {M, kind, NONE, 0});
                boolean fits = RANKS[value][kind] > 0;
                TestKit.due("fits " + VALUES[value] + " " + kind, engine.run(), fits ? TestKit.DONE : TestKit.THROWN);
                TestKit.due("result", engine.result(), fits ? TestKit.UNDEFINED : TestKit.err(5));
                TestKit.due("traceCount", engine.traceCount(), fits ? 1 : 0);
            }
        }
    }

    private static void pairsOfMethods() {
        for (int value = 0; value < VALUES.length; value++) {
            for (int one = BOOLEAN; one <= ANY; one++) {
                for (int other = BOOLEAN; other <= ANY; other++) {
                    int first = RANKS[value][one];
                    int second = RANKS[value][other];
                    if (one == other || first == 0 || second == 0) {
                        continue;
                    }
                    String source = "try { z } catch (e) {} host.m(" + VALUES[value] + ")";
                    BridgedScriptEngine engine = with(source, new int[] {M, one, NONE, 0}, new int[] {M, other, NONE, 0});
                    TestKit.due("run", engine.run(), TestKit.DONE);
                    TestKit.due("chosen for " + VALUES[value] + " " + one + " " + other, engine.traceMethod(0), first < second ? 0 : 1);
                }
            }
        }
    }

    private static void twoArguments() {
        chooses("host.m(1, true)", 1, new int[] {M, ANY, ANY, 0}, new int[] {M, INT, BOOLEAN, 0}, new int[] {M, LONG, INT, 0});
        chooses("host.m(1, {})", 0, new int[] {M, BYTE, ANY, 0}, new int[] {M, INT, INT, 0});
        chooses("host.m(1, 2)", 2, new int[] {M, INT, LONG, 0}, new int[] {M, LONG, INT, 0}, new int[] {M, INT, INT, 0});
        chooses("host.m(1, 2)", 0, new int[] {M, INT, INT, 0}, new int[] {M, INT, LONG, 0}, new int[] {M, LONG, INT, 0});
        chooses("host.m(1, 2)", 1, new int[] {M, INT, LONG, 0}, new int[] {M, INT, INT, 0}, new int[] {M, LONG, INT, 0});
        chooses("host.m(1, 2)", 1, new int[] {M, BYTE, SHORT, 0}, new int[] {M, CHAR, SHORT, 0}, new int[] {M, BYTE, ANY, 0});
    }

    private static void chooses(String source, int number, int[]... methods) {
        BridgedScriptEngine engine = with(source, methods);
        TestKit.due("run of " + source, engine.run(), TestKit.DONE);
        TestKit.due("chosen for " + source, engine.traceMethod(0), number);
    }

    private static void severalMethods() {
        fails("host.m(1, 2)", 6, new int[] {M, INT, LONG, 0}, new int[] {M, LONG, INT, 0});
        fails("host.m(1, 2)", 6, new int[] {M, INT, BYTE, 0}, new int[] {M, BYTE, INT, 0}, new int[] {M, ANY, ANY, 0});
        fails("host.m(1, 2)", 6, new int[] {M, ANY, INT, 0}, new int[] {M, LONG, LONG, 0}, new int[] {M, INT, ANY, 0});
        fails("host.m(true, 2)", 6, new int[] {M, INT, INT, 0}, new int[] {M, ANY, LONG, 0});
        fails("host.m(1, {})", 5, new int[] {M, INT, LONG, 0}, new int[] {M, LONG, INT, 0});
        chooses("host.m(1, true)", 0, new int[] {M, INT, INT, 0}, new int[] {M, LONG, LONG, 0});
        fails("host.n(1)", 5, new int[] {M, INT, NONE, 0});
        fails("host.a()", 5);
        fails("host.a()", 5, new int[] {M, NONE, NONE, 0});
    }

    private static void fails(String source, int code, int[]... methods) {
        BridgedScriptEngine engine = with(source, methods);
        TestKit.due("run of " + source, engine.run(), TestKit.THROWN);
        TestKit.due("result of " + source, engine.result(), TestKit.err(code));
        TestKit.due("traceCount of " + source, engine.traceCount(), 0);
    }

    private static void numbersOfArguments() {
        int[][] all = {{M, NONE, NONE, 0}, {M, ANY, NONE, 0}, {M, ANY, ANY, 0}};
        chooses("host.m()", 0, all);
        chooses("host.m(1)", 1, all);
        chooses("host.m(undefined)", 1, all);
        chooses("host.m(1, 2)", 2, all);
        fails("host.m(1, 2, 3)", 5, all);
        fails("host.m()", 5, new int[] {M, ANY, NONE, 0}, new int[] {M, ANY, ANY, 0});
        fails("host.m(1)", 5, new int[] {M, NONE, NONE, 0}, new int[] {M, ANY, ANY, 0});
        fails("host.m(1, 2)", 5, new int[] {M, NONE, NONE, 0}, new int[] {M, ANY, NONE, 0});
        BridgedScriptEngine engine = with("host.m(a = 1, b = 2, c = 3)", all);
        TestKit.due("run", engine.run(), TestKit.THROWN);
        TestKit.due("arguments are evaluated first", TestKit.global(engine, 'c'), TestKit.num(3));
    }

    private static void conversions() {
        converts("true", BOOLEAN, 1);
        converts("false", BOOLEAN, 0);
        converts("127", BYTE, 127);
        converts("128", BYTE, -128);
        converts("-129", BYTE, 127);
        converts("65535", BYTE, -1);
        converts("32767", SHORT, 32767);
        converts("32768", SHORT, -32768);
        converts("2147483647", SHORT, -1);
        converts("65535", CHAR, 65535);
        converts("65536", CHAR, 0);
        converts("-1", CHAR, 65535);
        converts("-2147483647", INT, -2147483647);
        converts("true", INT, 1);
        converts("e", INT, 2);
        converts("-5", LONG, -5);
        converts("-5", ANY, -5);
        converts("true", ANY, 1);
        converts("false", ANY, 0);
        converts("e", ANY, 2);
        converts("undefined", ANY, -1);
        converts("null", ANY, -2);
        converts("{}", ANY, 1000);
        converts("{a : 1, b : 2, c : 3}", ANY, 1003);
        converts("function () {}", ANY, 1000);
    }

    private static void converts(String value, int kind, long due) {
        BridgedScriptEngine engine = with("try { z } catch (e) {} host.m(" + value + "); host.n(0, " + value + ")",
            new int[] {M, kind, NONE, 0}, new int[] {TestKit.name('n'), INT, kind, 0});
        TestKit.due("run", engine.run(), TestKit.DONE);
        TestKit.due("first of " + value, engine.traceArg(1, 0), due);
        TestKit.due("no second of " + value, engine.traceArg(1, 1), 0);
        TestKit.due("second of " + value, engine.traceArg(0, 1), due);
    }

    private static void resultsAndMemory() {
        int[][] methods = {
            {TestKit.name('a'), INT, INT, 2}, {TestKit.name('b'), INT, NONE, 1}, {TestKit.name('c'), NONE, NONE, 3},
            {TestKit.name('d'), NONE, NONE, 4}, {TestKit.name('e'), NONE, NONE, 0}
        };
        BridgedScriptEngine engine = with("r = host.a(5, 6); s = host.b(7); try { host.c() } catch (t) { } u = host.d(); v = host.e(); "
            + "w = host.a(2147483647, -2147483647); x = host.a(w, w); y = host.a(x, x); k = host.b(y)", methods);
        long h = 5 * 7 + 6 * 3 + 0 + 1;
        TestKit.due("run", engine.run(), TestKit.DONE);
        TestKit.due("a NUM", TestKit.global(engine, 'r'), TestKit.num((int) h));
        h = h * 31 + 7 * 7 + 1 + 1;
        TestKit.due("a BOOL", TestKit.global(engine, 's'), TestKit.bool(h % 2 != 0));
        h = h * 31 + 2 + 1;
        TestKit.due("an ERR", TestKit.global(engine, 't'), TestKit.err(7));
        h = h * 31 + 3 + 1;
        TestKit.due("a NULL", TestKit.global(engine, 'u'), TestKit.NULL);
        h = h * 31 + 4 + 1;
        TestKit.due("an UNDEFINED", TestKit.global(engine, 'v'), TestKit.UNDEFINED);
        h = h * 31 + 2147483647L * 7 - 2147483647L * 3 + 1;
        int w = (int) (h ^ (h >>> 32));
        TestKit.due("folded", TestKit.global(engine, 'w'), TestKit.num(w));
        h = h * 31 + w * 10L + 1;
        int x = (int) (h ^ (h >>> 32));
        TestKit.due("folded again", TestKit.global(engine, 'x'), TestKit.num(x));
        h = h * 31 + x * 10L + 1;
        int y = (int) (h ^ (h >>> 32));
        TestKit.due("folded a third time", TestKit.global(engine, 'y'), TestKit.num(y));
        h = h * 31 + y * 7L + 2;
        TestKit.due("odd or even", TestKit.global(engine, 'k'), TestKit.bool((h & 1) == 1));
        TestKit.due("traceCount", engine.traceCount(), 9);
        wrappingMemory();
    }

    private static void wrappingMemory() {
        BridgedScriptEngine engine = with("r = 0; i = 0; while (i < 60) { r = host.m(r, 2147483647); i += 1 }", new int[] {M, INT, LONG, 2});
        long h = 0;
        int r = 0;
        for (int i = 0; i < 60; i++) {
            h = h * 31 + r * 7L + 2147483647L * 3 + 1;
            r = (int) (h ^ (h >>> 32));
        }
        TestKit.due("run", engine.run(), TestKit.DONE);
        TestKit.due("a wrapped memory", TestKit.global(engine, 'r'), TestKit.num(r));
    }

    private static void traces() {
        BridgedScriptEngine engine = with("i = 0; while (i < 40) { i += 1; host.m(i, -i); if (i == 40) host.n() }",
            new int[] {M, INT, LONG, 0}, new int[] {TestKit.name('n'), NONE, NONE, 0});
        TestKit.due("run", engine.run(), TestKit.DONE);
        TestKit.due("traceCount", engine.traceCount(), 41);
        TestKit.due("newest", engine.traceMethod(0), 1);
        TestKit.due("first of none", engine.traceArg(0, 0), 0);
        TestKit.due("second of none", engine.traceArg(0, 1), 0);
        for (int k = 1; k <= 31; k++) {
            TestKit.due("method " + k, engine.traceMethod(k), 0);
            TestKit.due("first " + k, engine.traceArg(k, 0), 41 - k);
            TestKit.due("second " + k, engine.traceArg(k, 1), k - 41);
            TestKit.due("which -1", engine.traceArg(k, -1), 0);
            TestKit.due("which 2", engine.traceArg(k, 2), 0);
        }
        for (int k : new int[] {-1, 32, 33, 41, Integer.MIN_VALUE, Integer.MAX_VALUE}) {
            TestKit.due("method " + k, engine.traceMethod(k), -1);
            TestKit.due("first " + k, engine.traceArg(k, 0), 0);
            TestKit.due("second " + k, engine.traceArg(k, 1), 0);
        }
    }

    private static void traceAcrossWorlds() {
        BridgedScriptEngine engine = with("host.m(3); function f(a) { host.m(a) }", new int[] {M, INT, NONE, 3});
        TestKit.due("run", engine.run(), TestKit.THROWN);
        TestKit.due("a throwing method is in the trace", engine.traceCount(), 1);
        TestKit.due("call", engine.call(TestKit.name('f'), 8, 0), TestKit.THROWN);
        TestKit.due("a call adds to it", engine.traceCount(), 2);
        TestKit.due("newest", engine.traceArg(0, 0), 8);
        TestKit.due("oldest", engine.traceArg(1, 0), 3);
        TestKit.due("not so many", engine.traceMethod(2), -1);
        TestKit.due("run", engine.run(), TestKit.THROWN);
        TestKit.due("a run empties it", engine.traceCount(), 1);
        TestKit.due("newest", engine.traceArg(0, 0), 3);
        TestKit.due("nothing older", engine.traceMethod(1), -1);
        TestKit.due("nor its argument", engine.traceArg(1, 0), 0);
    }
}
