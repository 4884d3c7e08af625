import java.util.List;

/** The edges of the promises 4, 14, 15 and 16, a sentence at a time. */
public final class EdgesOfHostTest {
    private static final int NONE = 0;
    private static final int BOOLEAN = 1;
    private static final int BYTE = 2;
    private static final int SHORT = 3;
    private static final int CHAR = 4;
    private static final int INT = 5;
    private static final int LONG = 6;
    private static final int ANY = 7;
    private static final int M = TestKit.name('m');
    private static final int MIN = Integer.MIN_VALUE;
    private static final int MAX = Integer.MAX_VALUE;
    private static final String MAKE = "try { z } catch (e) { } var l = -2147483647 - 1; ";

    /** Arguments of every kind; for each the parameter kinds that it fits, the best first. */
    private static final String[] VALUES = {"5", "true", "e", "undefined", "null", "{}", "function () { }"};
    private static final int[][] FITTING = {{INT, LONG, SHORT, CHAR, BYTE, ANY}, {BOOLEAN, ANY, INT}, {ANY, INT}, {ANY}, {ANY}, {ANY}, {ANY}};

    public static void main(String[] args) {
        numbersOfMethods();
        namesOutside();
        kindsOutside();
        secondWithoutFirst();
        resultsOutside();
        thirteenMethods();
        sameMethods();
        methodsStay();
        asManyParameters();
        everyArgumentFitting();
        ranks();
        ranksOfSecondArguments();
        noCandidate();
        severalCandidates();
        conversions();
        absentArguments();
        theHostMemory();
        memoryWraps();
        resultsOfMethods();
        argumentsFirst();
        traceCounts();
        traceMethods();
        traceArguments();
        TestKit.end();
    }

    private static int add(BridgedScriptEngine engine, int... method) {
        return engine.overload(method[0], method[1], method[2], method[3]);
    }

    private static BridgedScriptEngine with(String source, int[]... methods) {
        BridgedScriptEngine engine = new BridgedScriptEngine();
        for (int i = 0; i < methods.length; i++) {
            TestKit.due("overload " + i, add(engine, methods[i]), i);
        }
        TestKit.feed(engine, source);
        TestKit.due("load of " + source, engine.load(), TestKit.OK);
        return engine;
    }

    private static int[] m(int first, int second) {
        return new int[] {M, first, second, 0};
    }

    private static void chooses(String call, int number, int[]... methods) {
        BridgedScriptEngine engine = with(MAKE + call, methods);
        TestKit.due("run of " + call, engine.run(), TestKit.DONE);
        TestKit.due("method of " + call, engine.traceMethod(0), number);
        TestKit.due("traceCount of " + call, engine.traceCount(), 1);
    }

    private static void fails(String call, int code, int[]... methods) {
        BridgedScriptEngine engine = with(MAKE + call, methods);
        TestKit.due("run of " + call, engine.run(), TestKit.THROWN);
        TestKit.due("result of " + call, engine.result(), TestKit.err(code));
        TestKit.due("traceCount of " + call, engine.traceCount(), 0);
    }

    /** The calls are refused, and neither the world nor the methods are other than before. */
    private static void refused(int[][] methods) {
        BridgedScriptEngine engine = with("o = {p : 1}; host.m(4); function f() { return host.m() }", m(INT, NONE), m(NONE, NONE));
        TestKit.due("run", engine.run(), TestKit.DONE);
        List<Long> before = TestKit.seen(engine);
        for (int[] method : methods) {
            TestKit.due("overload " + method[0] + " " + method[1] + " " + method[2] + " " + method[3], add(engine, method), -1);
        }
        TestKit.unchanged("after refused methods", engine, before);
        TestKit.due("still loaded", engine.call(5, 0, 0), TestKit.DONE);
        TestKit.due("the next number", add(engine, 20, 0, 0, 0), 2);
    }

    private static void numbersOfMethods() {
        TestKit.sentence("Adds a host method with the next number (0 first).");
        BridgedScriptEngine engine = new BridgedScriptEngine();
        for (int i = 0; i < 12; i++) {
            TestKit.due("method " + i, add(engine, 25 - i, 0, 0, 0), i);
        }
        BridgedScriptEngine called = with("host.a(); host.b(); host.c()", new int[] {0, 0, 0, 0}, new int[] {1, 0, 0, 0}, new int[] {2, 0, 0, 0});
        TestKit.due("run", called.run(), TestKit.DONE);
        for (int k = 0; k < 3; k++) {
            TestKit.due("number of call " + k, called.traceMethod(k), 2 - k);
        }
    }

    private static void namesOutside() {
        TestKit.sentence("Refused (-1) if name is outside 0..25");
        refused(new int[][] {{-1, 0, 0, 0}, {26, 0, 0, 0}, {MIN, 0, 0, 0}, {MAX, 0, 0, 0}});
        BridgedScriptEngine engine = with("host.a(); host.z()", new int[] {0, 0, 0, 0}, new int[] {25, 0, 0, 0});
        TestKit.due("run", engine.run(), TestKit.DONE);
    }

    private static void kindsOutside() {
        TestKit.sentence("first or second outside 0..7");
        refused(new int[][] {{0, -1, 0, 0}, {0, 8, 0, 0}, {0, MIN, 0, 0}, {0, MAX, 0, 0}, {0, 1, -1, 0}, {0, 1, 8, 0}, {0, 1, MIN, 0}, {0, 1, MAX, 0},
            {0, 8, 8, 0}, {0, -1, -1, 0}});
        BridgedScriptEngine engine = new BridgedScriptEngine();
        for (int kind = 1; kind <= 7; kind++) {
            TestKit.due("first " + kind, add(engine, 0, kind, 0, 0), kind - 1);
        }
        BridgedScriptEngine seconds = new BridgedScriptEngine();
        for (int kind = 0; kind <= 7; kind++) {
            TestKit.due("second " + kind, add(seconds, 0, 7, kind, 0), kind);
        }
    }

    private static void secondWithoutFirst() {
        TestKit.sentence("first is 0 but second is not");
        refused(new int[][] {{0, 0, 1, 0}, {0, 0, 2, 0}, {0, 0, 3, 0}, {0, 0, 4, 0}, {0, 0, 5, 0}, {0, 0, 6, 0}, {0, 0, 7, 0}});
        TestKit.due("both 0", add(new BridgedScriptEngine(), 0, 0, 0, 0), 0);
        TestKit.due("second 0", add(new BridgedScriptEngine(), 0, 1, 0, 0), 0);
        TestKit.due("none 0", add(new BridgedScriptEngine(), 0, 1, 1, 0), 0);
    }

    private static void resultsOutside() {
        TestKit.sentence("result outside 0..4");
        refused(new int[][] {{0, 0, 0, -1}, {0, 0, 0, 5}, {0, 0, 0, MIN}, {0, 0, 0, MAX}});
        BridgedScriptEngine engine = new BridgedScriptEngine();
        for (int result = 0; result <= 4; result++) {
            TestKit.due("result " + result, add(engine, result, 0, 0, result), result);
        }
    }

    private static void thirteenMethods() {
        TestKit.sentence("12 methods are there");
        BridgedScriptEngine engine = TestKit.loaded("host.l(); function f() { host.m() }");
        for (int i = 0; i < 12; i++) {
            TestKit.due("method " + i, add(engine, i, 0, 0, 0), i);
        }
        for (int name = 0; name < 26; name++) {
            TestKit.due("a thirteenth " + name, add(engine, name, 0, 0, 0), -1);
        }
        TestKit.due("a thirteenth with parameters", add(engine, 0, 7, 7, 4), -1);
        TestKit.due("still loaded", engine.run(), TestKit.DONE);
        TestKit.due("the twelfth is called", engine.traceMethod(0), 11);
        TestKit.due("the thirteenth is not there", engine.call(5, 0, 0), TestKit.THROWN);
        TestKit.due("no method fits", engine.result(), TestKit.err(5));
    }

    private static void sameMethods() {
        TestKit.sentence("or one with the same name, first and second is.");
        BridgedScriptEngine engine = new BridgedScriptEngine();
        TestKit.due("the first", add(engine, 3, 5, 6, 0), 0);
        for (int result = 0; result <= 4; result++) {
            TestKit.due("the same with result " + result, add(engine, 3, 5, 6, result), -1);
        }
        TestKit.due("another name", add(engine, 4, 5, 6, 0), 1);
        TestKit.due("another first", add(engine, 3, 6, 6, 0), 2);
        TestKit.due("another second", add(engine, 3, 5, 5, 0), 3);
        TestKit.due("without second", add(engine, 3, 5, 0, 0), 4);
        TestKit.due("without both", add(engine, 3, 0, 0, 0), 5);
        TestKit.due("exchanged", add(engine, 3, 6, 5, 0), 6);
        int[][] again = {{3, 5, 6, 1}, {4, 5, 6, 1}, {3, 6, 6, 1}, {3, 5, 5, 1}, {3, 5, 0, 1}, {3, 0, 0, 1}, {3, 6, 5, 1}};
        for (int[] method : again) {
            TestKit.due("again", add(engine, method), -1);
        }
        TestKit.due("the next number", add(engine, 5, 0, 0, 0), 7);
    }

    private static void methodsStay() {
        TestKit.sentence("Adds a host method with the next number (0 first).");
        BridgedScriptEngine engine = with("r = host.m()", new int[] {M, 0, 0, 4});
        TestKit.due("run", engine.run(), TestKit.DONE);
        engine.wipe();
        TestKit.feed(engine, "function f() { return host.n() } r = host.m()");
        TestKit.due("load", engine.load(), TestKit.OK);
        TestKit.due("run", engine.run(), TestKit.DONE);
        TestKit.due("over wipe and load", TestKit.global(engine, 'r'), TestKit.NULL);
        TestKit.due("not yet there", engine.call(5, 0, 0), TestKit.THROWN);
        TestKit.due("added while loaded", add(engine, 13, 0, 0, 4), 1);
        TestKit.due("now there", engine.call(5, 0, 0), TestKit.DONE);
        TestKit.due("its answer", engine.result(), TestKit.NULL);
        BridgedScriptEngine memory = with("function f() { return host.m() }", new int[] {M, 0, 0, 2});
        TestKit.due("run", memory.run(), TestKit.DONE);
        TestKit.due("call", memory.call(5, 0, 0), TestKit.DONE);
        TestKit.due("a method more", add(memory, 20, 0, 0, 0), 1);
        TestKit.due("one refused", add(memory, 26, 0, 0, 0), -1);
        TestKit.due("call", memory.call(5, 0, 0), TestKit.DONE);
        TestKit.due("neither changes the host memory", memory.result(), TestKit.num(32));
        TestKit.due("nor the trace", memory.traceCount(), 2);
    }

    private static void asManyParameters() {
        TestKit.sentence("candidates are the methods named m with as many parameters as there are arguments and every argument fitting.");
        int[][] all = {m(NONE, NONE), m(ANY, NONE), m(ANY, ANY)};
        chooses("host.m()", 0, all);
        chooses("host.m(1)", 1, all);
        chooses("host.m(undefined)", 1, all);
        chooses("host.m(1, 2)", 2, all);
        chooses("host.m(undefined, undefined)", 2, all);
        fails("host.m(1, 2, 3)", 5, all);
        fails("host.m()", 5, m(ANY, NONE), m(ANY, ANY));
        fails("host.m(1)", 5, m(NONE, NONE), m(ANY, ANY));
        fails("host.m(1, 2)", 5, m(NONE, NONE), m(ANY, NONE));
        fails("host.n(1)", 5, all);
        fails("host.l(1)", 5, all);
    }

    private static boolean fits(int value, int kind) {
        for (int fitting : FITTING[value]) {
            if (fitting == kind) {
                return true;
            }
        }
        return false;
    }

    private static void everyArgumentFitting() {
        TestKit.sentence("and every argument fitting");
        for (int value = 0; value < VALUES.length; value++) {
            for (int kind = BOOLEAN; kind <= ANY; kind++) {
                String alone = "host.m(" + VALUES[value] + ")";
                String behind = "host.m(1, " + VALUES[value] + ")";
                String before = "host.m(" + VALUES[value] + ", 1)";
                if (fits(value, kind)) {
                    chooses(alone, 0, m(kind, NONE));
                    chooses(behind, 0, m(INT, kind));
                    chooses(before, 0, m(kind, INT));
                } else {
                    fails(alone, 5, m(kind, NONE));
                    fails(behind, 5, m(INT, kind));
                    fails(before, 5, m(kind, INT));
                }
            }
        }
    }

    private static void ranks() {
        TestKit.sentence("Ranks: a NUM fits INT 1, LONG 2, SHORT 3, CHAR 4, BYTE 5, ANY 6; a BOOL fits BOOLEAN 1, ANY 2, INT 3; ERR fits ANY 1, INT 2;"
            + " UNDEFINED, NULL and OBJ fit ANY 1.");
        for (int value = 0; value < VALUES.length; value++) {
            int[] kinds = FITTING[value];
            for (int better = 0; better < kinds.length; better++) {
                for (int worse = better + 1; worse < kinds.length; worse++) {
                    chooses("host.m(" + VALUES[value] + ")", 0, m(kinds[better], NONE), m(kinds[worse], NONE));
                    chooses("host.m(" + VALUES[value] + ")", 1, m(kinds[worse], NONE), m(kinds[better], NONE));
                }
            }
        }
        chooses("host.m(5)", 3, m(BOOLEAN, NONE), m(ANY, NONE), m(BYTE, NONE), m(INT, NONE), m(LONG, NONE), m(SHORT, NONE), m(CHAR, NONE));
        chooses("host.m(true)", 2, m(INT, NONE), m(ANY, NONE), m(BOOLEAN, NONE), m(LONG, NONE));
        chooses("host.m(e)", 1, m(INT, NONE), m(ANY, NONE), m(LONG, NONE));
    }

    private static void ranksOfSecondArguments() {
        TestKit.sentence("The candidate is taken whose rank in every argument is at most that of every other candidate");
        for (int value = 0; value < VALUES.length; value++) {
            int[] kinds = FITTING[value];
            for (int better = 0; better < kinds.length; better++) {
                for (int worse = better + 1; worse < kinds.length; worse++) {
                    chooses("host.m(1, " + VALUES[value] + ")", 1, m(INT, kinds[worse]), m(INT, kinds[better]));
                    fails("host.m(1, " + VALUES[value] + ")", 6, m(INT, kinds[worse]), m(LONG, kinds[better]));
                    chooses("host.m(1, " + VALUES[value] + ")", 1, m(LONG, kinds[worse]), m(INT, kinds[better]));
                }
            }
        }
        chooses("host.m(1, 2)", 2, m(INT, LONG), m(LONG, INT), m(INT, INT));
        chooses("host.m(1, 2)", 0, m(INT, INT), m(INT, LONG), m(LONG, INT));
        chooses("host.m(1, 2)", 1, m(INT, LONG), m(INT, INT), m(LONG, INT));
        chooses("host.m(1, true)", 0, m(INT, INT), m(INT, LONG), m(BOOLEAN, BOOLEAN));
        TestKit.sentence("(without arguments there is at most one)");
        chooses("host.m()", 1, m(ANY, NONE), m(NONE, NONE), m(ANY, ANY));
    }

    private static void noCandidate() {
        TestKit.sentence("No candidate: ERR 5 is thrown.");
        fails("host.m()", 5);
        fails("host.m(1)", 5, m(BOOLEAN, NONE));
        fails("host.m(true)", 5, m(LONG, NONE), m(BYTE, NONE), m(SHORT, NONE), m(CHAR, NONE));
        fails("host.m({})", 5, m(INT, NONE), m(LONG, NONE), m(BOOLEAN, NONE));
        fails("host.m(1, true)", 5, m(INT, LONG), m(BOOLEAN, ANY));
        fails("host.m(1)", 5, new int[] {M - 1, INT, NONE, 0}, new int[] {M + 1, INT, NONE, 0});
    }

    private static void severalCandidates() {
        TestKit.sentence("if there is none, ERR 6 is thrown.");
        fails("host.m(1, 2)", 6, m(INT, LONG), m(LONG, INT));
        fails("host.m(1, 2)", 6, m(LONG, INT), m(INT, LONG));
        fails("host.m(1, 2)", 6, m(INT, ANY), m(ANY, INT), m(LONG, LONG));
        fails("host.m(1, 2)", 6, m(LONG, LONG), m(INT, ANY), m(ANY, INT));
        fails("host.m(1, 2)", 6, m(INT, ANY), m(LONG, LONG), m(ANY, INT));
        fails("host.m(1, 2)", 6, m(INT, SHORT), m(LONG, INT), m(INT, CHAR));
        fails("host.m(true, e)", 6, m(BOOLEAN, INT), m(ANY, ANY));
        chooses("host.m(1, 2)", 1, m(ANY, ANY), m(LONG, LONG), m(SHORT, SHORT));
    }

    private static void conversions() {
        TestKit.sentence("Converted arguments (longs): BOOLEAN 0 or 1; BYTE, SHORT the payload narrowed as a Java cast does, CHAR its low 16 bits; INT, LONG the payload; "
            + "ANY: payload of NUM, BOOL, ERR, -1 for UNDEFINED, -2 for NULL, for OBJ 1000 plus the number of its properties.");
        converts("false", BOOLEAN, 0);
        converts("true", BOOLEAN, 1);
        String[] numbers = {"0", "1", "-1", "127", "128", "129", "-128", "-129", "255", "256", "32767", "32768", "-32768", "-32769", "65535", "65536", "65537",
            "2147483647", "l"};
        int[] ints = {0, 1, -1, 127, 128, 129, -128, -129, 255, 256, 32767, 32768, -32768, -32769, 65535, 65536, 65537, MAX, MIN};
        for (int i = 0; i < numbers.length; i++) {
            converts(numbers[i], BYTE, (byte) ints[i]);
            converts(numbers[i], SHORT, (short) ints[i]);
            converts(numbers[i], CHAR, (char) ints[i]);
            converts(numbers[i], INT, ints[i]);
            converts(numbers[i], LONG, ints[i]);
            converts(numbers[i], ANY, ints[i]);
        }
        converts("false", INT, 0);
        converts("true", INT, 1);
        converts("false", ANY, 0);
        converts("true", ANY, 1);
        converts("e", INT, 2);
        converts("e", ANY, 2);
        converts("undefined", ANY, -1);
        converts("null", ANY, -2);
        converts("{}", ANY, 1000);
        converts("{a : 1}", ANY, 1001);
        converts("{a : 1, b : 2, c : 3, d : 4}", ANY, 1004);
        converts("function () { }", ANY, 1000);
    }

    /** The argument is converted alike in the first and in the second place, and the host memory is made with it. */
    private static void converts(String value, int kind, long due) {
        BridgedScriptEngine engine = with(MAKE + "r = host.m(" + value + "); s = host.n(0, " + value + ")",
            new int[] {M, kind, NONE, 2}, new int[] {TestKit.name('n'), INT, kind, 2});
        TestKit.due("run", engine.run(), TestKit.DONE);
        TestKit.due("first " + value + " as " + kind, engine.traceArg(1, 0), due);
        TestKit.due("second " + value + " as " + kind, engine.traceArg(0, 1), due);
        long h = due * 7 + 1;
        TestKit.due("memory after the first " + value + " as " + kind, TestKit.global(engine, 'r'), folded(h));
        h = h * 31 + due * 3 + 2;
        TestKit.due("memory after the second " + value + " as " + kind, TestKit.global(engine, 's'), folded(h));
    }

    private static long folded(long h) {
        return TestKit.num((int) (h ^ (h >>> 32)));
    }

    private static void absentArguments() {
        TestKit.sentence("An absent argument counts as 0 below.");
        BridgedScriptEngine engine = with("a = host.a(); b = host.b(5); c = host.c(5, 6)", new int[] {0, 0, 0, 2}, new int[] {1, INT, 0, 2},
            new int[] {2, INT, INT, 2});
        TestKit.due("run", engine.run(), TestKit.DONE);
        long h = 1;
        TestKit.due("none", engine.global(0), folded(h));
        h = h * 31 + 5 * 7 + 1 + 1;
        TestKit.due("one", engine.global(1), folded(h));
        h = h * 31 + 5 * 7 + 6 * 3 + 2 + 1;
        TestKit.due("two", engine.global(2), folded(h));
    }

    private static void theHostMemory() {
        TestKit.sentence("The call is added to the trace, then the host memory h (a long, wrapping) becomes h * 31 + first argument * 7 + second * 3 + number of the method + 1");
        BridgedScriptEngine engine = with("a = host.a(); b = host.a(); try { host.m(1) } catch (e) { } c = host.a()", new int[] {0, 0, 0, 2});
        TestKit.due("run", engine.run(), TestKit.DONE);
        TestKit.due("first", engine.global(0), TestKit.num(1));
        TestKit.due("second", engine.global(1), TestKit.num(32));
        TestKit.due("a call that fits no method changes nothing", engine.global(2), TestKit.num(32 * 31 + 1));
        BridgedScriptEngine thrown = with("try { host.b() } catch (e) { } a = host.a()", new int[] {0, 0, 0, 2}, new int[] {1, 0, 0, 3});
        TestKit.due("run", thrown.run(), TestKit.DONE);
        TestKit.due("a throwing method changes it", thrown.global(0), TestKit.num(2 * 31 + 1));
        BridgedScriptEngine calls = with("function f() { return host.a() } host.a()", new int[] {0, 0, 0, 2});
        TestKit.due("run", calls.run(), TestKit.DONE);
        TestKit.due("call", calls.call(5, 0, 0), TestKit.DONE);
        TestKit.due("it lasts from run to call", calls.result(), TestKit.num(32));
        TestKit.due("run again", calls.run(), TestKit.DONE);
        TestKit.due("call again", calls.call(5, 0, 0), TestKit.DONE);
        TestKit.due("and begins anew in a run", calls.result(), TestKit.num(32));
    }

    private static void memoryWraps() {
        TestKit.sentence("the host memory h (a long, wrapping)");
        BridgedScriptEngine engine = with("function f(a, b) { return host.m(a, b) } function g(a) { return host.n(a) }", new int[] {M, LONG, INT, 2},
            new int[] {TestKit.name('n'), INT, NONE, 1});
        TestKit.due("run", engine.run(), TestKit.DONE);
        long h = 0;
        int a = MAX;
        for (int i = 0; i < 40; i++) {
            int b = i % 3 == 0 ? MIN : MAX - i;
            h = h * 31 + a * 7L + b * 3L + 1;
            TestKit.due("call", engine.call(5, a, b), TestKit.DONE);
            TestKit.due("folded " + i, engine.result(), folded(h));
            a = (int) h;
            h = h * 31 + i * 7L + 2;
            TestKit.due("call", engine.call(6, i, 0), TestKit.DONE);
            TestKit.due("odd " + i + (h < 0 ? " below 0" : ""), engine.result(), TestKit.bool((h & 1) == 1));
        }
    }

    private static void resultsOfMethods() {
        TestKit.sentence("0 answers UNDEFINED; 1 a BOOL, 1 if the new h is odd; 2 a NUM, (int) (h ^ (h >>> 32)); 3 throws ERR 7; 4 answers NULL.");
        String source = "a = host.a(1); b = host.b(1); c = host.b(2); d = host.c(1); try { host.d(1) } catch (e) { } f = host.e(1)";
        BridgedScriptEngine engine = with(source, new int[] {0, INT, 0, 0}, new int[] {1, INT, 0, 1}, new int[] {2, INT, 0, 2}, new int[] {3, INT, 0, 3},
            new int[] {4, INT, 0, 4});
        TestKit.due("run", engine.run(), TestKit.DONE);
        long h = 7 + 1;
        TestKit.due("0", engine.global(0), TestKit.UNDEFINED);
        h = h * 31 + 7 + 2;
        TestKit.due("1 with an odd h", engine.global(1), TestKit.bool(true));
        TestKit.due("h is odd", h & 1, 1);
        h = h * 31 + 14 + 2;
        TestKit.due("1 with an odd h again", engine.global(2), TestKit.bool((h & 1) == 1));
        h = h * 31 + 7 + 3;
        TestKit.due("2", engine.global(3), folded(h));
        TestKit.due("3", engine.global(4), TestKit.err(7));
        TestKit.due("4", engine.global(5), TestKit.NULL);
        BridgedScriptEngine even = with("a = host.b(0); b = host.b(0)", new int[] {1, INT, 0, 1});
        TestKit.due("run", even.run(), TestKit.DONE);
        TestKit.due("1 with h = 1", even.global(0), TestKit.bool(true));
        TestKit.due("1 with h = 32", even.global(1), TestKit.bool(false));
    }

    private static void argumentsFirst() {
        TestKit.sentence("HOST: host . m ( e .. ) evaluates the arguments and calls a host method, see overload.");
        BridgedScriptEngine engine = with("host.n(a = 1, b = 2, c = 3)", m(ANY, ANY));
        TestKit.due("run", engine.run(), TestKit.THROWN);
        TestKit.due("a", engine.global(0), TestKit.num(1));
        TestKit.due("b", engine.global(1), TestKit.num(2));
        TestKit.due("c", engine.global(2), TestKit.num(3));
        BridgedScriptEngine thrown = with("host.m(a = 1, z)", m(ANY, ANY));
        TestKit.due("run", thrown.run(), TestKit.THROWN);
        TestKit.due("an argument throws", thrown.result(), TestKit.err(2));
        TestKit.due("no call", thrown.traceCount(), 0);
        BridgedScriptEngine operand = with("r = 3 + host.m(4, 5); s = (function (a, b) { return a + b })(6, host.m(7, 8))", new int[] {M, INT, INT, 4});
        TestKit.due("run", operand.run(), TestKit.DONE);
        TestKit.due("NULL counts 0 beside 3", TestKit.global(operand, 'r'), TestKit.num(3));
        TestKit.due("NULL counts 0 beside 6", TestKit.global(operand, 's'), TestKit.num(6));
        BridgedScriptEngine inner = with("host.m(host.m(), host.m(1))", m(NONE, NONE), m(ANY, NONE), m(ANY, ANY));
        TestKit.due("run", inner.run(), TestKit.DONE);
        TestKit.due("the outer call comes last", inner.traceMethod(0), 2);
        TestKit.due("then the second argument", inner.traceMethod(1), 1);
        TestKit.due("the first argument first", inner.traceMethod(2), 0);
    }

    private static void traceCounts() {
        TestKit.sentence("The number of host methods called in this world.");
        BridgedScriptEngine engine = with("function f(n) { while (n) { n -= 1; host.m(n) } } function g() { host.n() } function h() { host.m() }",
            m(INT, NONE), new int[] {TestKit.name('n'), NONE, NONE, 3});
        TestKit.due("a new world", engine.traceCount(), 0);
        TestKit.due("run", engine.run(), TestKit.DONE);
        TestKit.due("none yet", engine.traceCount(), 0);
        int count = 0;
        for (int n : new int[] {1, 30, 1, 1, 60, 60}) {
            TestKit.due("call", engine.call(5, n, 0), TestKit.DONE);
            count += n;
            TestKit.due("after " + count, engine.traceCount(), count);
        }
        TestKit.due("call g", engine.call(6, 0, 0), TestKit.THROWN);
        TestKit.due("one that throws ERR 7 was called", engine.traceCount(), count + 1);
        TestKit.due("call h", engine.call(7, 0, 0), TestKit.THROWN);
        TestKit.due("none that fits, none called", engine.traceCount(), count + 1);
        TestKit.due("run", engine.run(), TestKit.DONE);
        TestKit.due("a new world again", engine.traceCount(), 0);
    }

    /** Looks at the trace just before and after it is full, and where it has gone round once and twice. */
    private static void traceMethods() {
        TestKit.sentence("The number of the method of the k-th newest host call (0 the newest, 0..31); -1 if k is outside or there were not so many.");
        for (int count : new int[] {0, 1, 2, 31, 32, 33, 63}) {
            BridgedScriptEngine engine = traced(count);
            for (int k = 0; k < 34; k++) {
                boolean there = k < count && k < 32;
                TestKit.due("method " + k + " of " + count, engine.traceMethod(k), there ? (count - k) & 1 : -1);
            }
            for (int k : new int[] {-1, -2, -32, 63, 64, MIN, MAX}) {
                TestKit.due("method " + k + " of " + count, engine.traceMethod(k), -1);
            }
        }
    }

    /** So many calls of a(i, -i), the odd ones of them as b(i). */
    private static BridgedScriptEngine traced(int count) {
        BridgedScriptEngine engine = with("i = 0; while (i < " + count + ") { i += 1; if (i & 1) host.b(i); else host.a(i, -i) }",
            new int[] {0, INT, LONG, 0}, new int[] {1, INT, NONE, 0});
        TestKit.due("run", engine.run(), TestKit.DONE);
        TestKit.due("traceCount", engine.traceCount(), count);
        return engine;
    }

    private static void traceArguments() {
        TestKit.sentence("The converted argument (0 first, 1 second) of that call; 0 where traceMethod answers -1, which is not 0 or 1, or the method has no such parameter.");
        for (int count : new int[] {0, 1, 2, 31, 32, 33, 63}) {
            BridgedScriptEngine engine = traced(count);
            for (int k = 0; k < 34; k++) {
                boolean there = k < count && k < 32;
                int i = count - k;
                TestKit.due("first " + k + " of " + count, engine.traceArg(k, 0), there ? i : 0);
                TestKit.due("second " + k + " of " + count, engine.traceArg(k, 1), there && (i & 1) == 0 ? -i : 0);
            }
            for (int k : new int[] {-1, -32, 64, MIN, MAX}) {
                TestKit.due("first " + k, engine.traceArg(k, 0), 0);
                TestKit.due("second " + k, engine.traceArg(k, 1), 0);
            }
            for (int which : new int[] {-1, 2, 3, MIN, MAX}) {
                TestKit.due("argument " + which + " of the newest", engine.traceArg(0, which), 0);
                TestKit.due("argument " + which + " of the one before", engine.traceArg(1, which), 0);
                TestKit.due("argument " + which + " of the oldest", engine.traceArg(31, which), 0);
            }
        }
        BridgedScriptEngine none = with("host.b(9, 8); host.a()", new int[] {0, NONE, NONE, 0}, new int[] {1, INT, INT, 0});
        TestKit.due("run", none.run(), TestKit.DONE);
        TestKit.due("no first parameter", none.traceArg(0, 0), 0);
        TestKit.due("no second parameter", none.traceArg(0, 1), 0);
        BridgedScriptEngine again = with("i = 9; while (i < 41) { i += 1; host.a(i, i) } host.b(i); host.c()", new int[] {0, INT, INT, 0},
            new int[] {1, INT, NONE, 0}, new int[] {2, NONE, NONE, 0});
        TestKit.due("run", again.run(), TestKit.DONE);
        TestKit.due("traceCount", again.traceCount(), 34);
        TestKit.due("no first parameter where there was one before", again.traceArg(0, 0), 0);
        TestKit.due("no second parameter where there was one before", again.traceArg(0, 1), 0);
        TestKit.due("nor in the call before", again.traceArg(1, 1), 0);
        TestKit.due("the oldest one kept", again.traceArg(31, 1), 12);
    }
}
