import java.util.List;

/** The edges of CALLS, TICKS and try in MEANING and of the promises 7 and 8, a sentence at a time. */
public final class EdgesOfCallsTest {
    private static final int F = TestKit.name('f');
    private static final int G = TestKit.name('g');
    private static final int H = TestKit.name('h');

    public static void main(String[] args) {
        functionsOnly();
        eightActiveCalls();
        tooDeepUsesNoTick();
        sixtyCalls();
        theLastScopes();
        functionsInside();
        aTickBeforeTheSixty();
        countedForTooLittleRoom();
        bindingArguments();
        otherOwnNames();
        declaredFunctions();
        tooLittleRoomForThem();
        withoutReturn();
        theProgramsOwnNames();
        ticksOfWhile();
        ticksOfCalls();
        everythingStops();
        tries();
        catchNames();
        throwsInCatch();
        newWorlds();
        answersOfRun();
        runNotLoaded();
        callNotLoaded();
        noFunction();
        answersOfCall();
        anActiveCall();
        TestKit.end();
    }

    private static void answers(BridgedScriptEngine engine, int f, int a, int status, long result) {
        TestKit.due("call " + f + " with " + a, engine.call(f, a, 0), status);
        TestKit.due("result of call " + f + " with " + a, engine.result(), result);
    }

    private static void functionsOnly() {
        TestKit.sentence("CALLS f ( e .. ): f is evaluated, then the arguments; then f must be a function object (else ERR 1)");
        for (String value : new String[] {"undefined", "null", "true", "0", "1", "(a = {})", "(a = {b : function () { }})"}) {
            BridgedScriptEngine engine = TestKit.loaded(value + "(r = 1)");
            TestKit.due("run of " + value + "()", engine.run(), TestKit.THROWN);
            TestKit.due("ERR 1 of " + value + "()", engine.result(), TestKit.err(1));
            TestKit.due("the argument came first", TestKit.global(engine, 'r'), TestKit.num(1));
        }
        TestKit.throwsValue("z(1 / 0)", TestKit.err(2));
        TestKit.throwsValue("1(1 / 0)", TestKit.err(4));
        TestKit.throwsValue("1.a(1 / 0)", TestKit.err(1));
        TestKit.leaves("function f() { return 3 } g = f; r = f(f = 5) + g()", TestKit.num(6));
        TestKit.throwsValue("f = 5; function g() { } f(f = g)", TestKit.err(1));
    }

    private static void eightActiveCalls() {
        TestKit.sentence("if 8 calls are active already, ERR 3 is thrown");
        String f = "function f(n) { return n ? 1 + f(n - 1) : 1 } ";
        TestKit.leaves(f + "r = f(6)", TestKit.num(7));
        TestKit.leaves(f + "r = f(7)", TestKit.num(8));
        TestKit.throwsValue(f + "f(8)", TestKit.err(3));
        TestKit.leaves(f + "try { f(8) } catch (e) { r = f(7) }", TestKit.num(8));
        TestKit.leaves("function f(n) { return n ? g(n - 1) : 5 } function g(n) { return n ? f(n - 1) : 6 } r = f(7)", TestKit.num(6));
        TestKit.throwsValue("function f(n) { return n ? g(n - 1) : 5 } function g(n) { return n ? f(n - 1) : 6 } f(8)", TestKit.err(3));
        TestKit.leaves(f + "r = f(7) + f(7) + f(7)", TestKit.num(24));
        TestKit.throwsValue("function f(n) { if (n) f(n - 1); else 1() } f(7)", TestKit.err(1));
        TestKit.throwsValue("function f(n) { if (n) f(n - 1); else f(z) } f(7)", TestKit.err(2));
        BridgedScriptEngine host = new BridgedScriptEngine();
        host.overload(12, 0, 0, 2);
        TestKit.feed(host, "function f(n) { return n ? f(n - 1) : host.m() } r = f(7)");
        TestKit.due("load", host.load(), TestKit.OK);
        TestKit.due("a host call is no active call", host.run(), TestKit.DONE);
        TestKit.due("r", TestKit.global(host, 'r'), TestKit.num(1));
    }

    private static void tooDeepUsesNoTick() {
        TestKit.sentence("ERR 3 is thrown; then one TICK is used up");
        BridgedScriptEngine engine = TestKit.loaded("t = 0; function f(n) { if (n) return f(n - 1); "
            + "try { f(0) } catch (e) { } try { f(0) } catch (e) { } while (true) t += 1 } f(7)");
        TestKit.due("run", engine.run(), TestKit.STOPPED);
        TestKit.due("64 less 8 calls", TestKit.global(engine, 't'), TestKit.num(56));
    }

    private static void sixtyCalls() {
        TestKit.sentence("if the function has a function inside and 60 calls of such functions were made since the last run began, ERR 3 is thrown");
        BridgedScriptEngine engine = TestKit.ran("n = 0; function f(a) { n += 1; if (a) return function () { } } function g(a) { return a }");
        for (int i = 1; i <= 60; i++) {
            answers(engine, F, 0, TestKit.DONE, TestKit.UNDEFINED);
        }
        answers(engine, F, 0, TestKit.THROWN, TestKit.err(3));
        answers(engine, F, 1, TestKit.THROWN, TestKit.err(3));
        TestKit.due("60 bodies were executed", TestKit.global(engine, 'n'), TestKit.num(60));
        answers(engine, G, 7, TestKit.DONE, TestKit.num(7));
        TestKit.due("a new run", engine.run(), TestKit.DONE);
        answers(engine, F, 1, TestKit.DONE, TestKit.fun(0));
        BridgedScriptEngine program = TestKit.ran("r = 0; function f() { function g() { } return g } i = 0; "
            + "while (i < 31) { i += 1; try { f(); r += 1 } catch (e) { } }");
        TestKit.due("in the run", TestKit.global(program, 'r'), TestKit.num(31));
        for (int i = 32; i <= 46; i++) {
            answers(program, F, 0, TestKit.DONE, TestKit.fun(0));
        }
        BridgedScriptEngine both = TestKit.ran("function f() { if (0) { a = function () { } } } function g() { if (0) { a = function () { } } } "
            + "function h(n) { while (n) { n -= 1; f(); g() } }");
        answers(both, H, 20, TestKit.DONE, TestKit.UNDEFINED);
        answers(both, H, 10, TestKit.DONE, TestKit.UNDEFINED);
        answers(both, F, 0, TestKit.THROWN, TestKit.err(3));
        answers(both, G, 0, TestKit.THROWN, TestKit.err(3));
        BridgedScriptEngine plain = TestKit.ran("function f(a) { return a }");
        for (int i = 0; i < 130; i++) {
            answers(plain, F, i, TestKit.DONE, TestKit.num(i));
        }
    }

    /** The last of the 60 scopes are kept, however deep the calls after them go. */
    private static void theLastScopes() {
        TestKit.sentence("Functions keep the scope in which they were made.");
        BridgedScriptEngine engine = TestKit.ran("function f(a) { var k = a; if (a) o = {n : o, f : function () { return k }} } function g(n) { var k = 9; if (n) g(n - 1) } "
            + "var o; function h(n) { var p = o; while (n) { n -= 1; p = p.n } return p.f() }");
        for (int i = 0; i < 51; i++) {
            answers(engine, F, 0, TestKit.DONE, TestKit.UNDEFINED);
        }
        for (int i = 1; i <= 9; i++) {
            answers(engine, F, i, TestKit.DONE, TestKit.UNDEFINED);
        }
        answers(engine, F, 0, TestKit.THROWN, TestKit.err(3));
        answers(engine, G, 7, TestKit.DONE, TestKit.UNDEFINED);
        for (int i = 1; i <= 9; i++) {
            answers(engine, H, 9 - i, TestKit.DONE, TestKit.num(i));
        }
    }

    /** Every form of a function inside makes a function one of the 60; one that stands around does not. */
    private static void functionsInside() {
        TestKit.sentence("if the function has a function inside");
        String[] bodies = {"function k() { }", "if (0) { a = function () { } }", "return a; a = {b : (function () { })}",
            "if (0) host.m(function () { })", "while (0) { try { throw function () { } } catch (k) { } }"};
        for (int i = 0; i < bodies.length; i++) {
            String body = bodies[i];
            BridgedScriptEngine engine = TestKit.ran("var a; function f() { " + body + " }");
            int free = i == 0 ? 47 : 60;
            for (int call = 0; call < free; call++) {
                TestKit.due("call " + call + " of " + body, engine.call(F, 0, 0), TestKit.DONE);
            }
            TestKit.due("the next call of " + body, engine.call(F, 0, 0), TestKit.THROWN);
            TestKit.due("its result", engine.result(), TestKit.err(3));
        }
        BridgedScriptEngine inner = TestKit.ran("function f() { return function (a) { return a } } g = f()");
        for (int call = 0; call < 100; call++) {
            answers(inner, G, call, TestKit.DONE, TestKit.num(call));
        }
        BridgedScriptEngine middle = TestKit.ran("function f() { return function () { if (0) { a = function () { } } } } g = f()");
        for (int call = 0; call < 59; call++) {
            answers(middle, G, call, TestKit.DONE, TestKit.UNDEFINED);
        }
        answers(middle, G, 0, TestKit.THROWN, TestKit.err(3));
    }

    private static void aTickBeforeTheSixty() {
        TestKit.sentence("then one TICK is used up; then, if the function has a function inside and 60 calls of such functions were made "
            + "since the last run began, ERR 3 is thrown");
        BridgedScriptEngine engine = TestKit.ran("n = 0; function f() { n += 1; if (0) { a = function () { } } } "
            + "function g() { t = 0; while (true) { t += 1; try { f() } catch (e) { } } } function h(a) { while (a) a -= 1; f() }");
        for (int i = 0; i < 10; i++) {
            answers(engine, H, 62, TestKit.STOPPED, TestKit.UNDEFINED);
        }
        TestKit.due("a call without a tick is not made", TestKit.global(engine, 'n'), TestKit.num(0));
        answers(engine, G, 0, TestKit.STOPPED, TestKit.UNDEFINED);
        TestKit.due("nor counted: 31 are made", TestKit.global(engine, 'n'), TestKit.num(31));
        answers(engine, G, 0, TestKit.STOPPED, TestKit.UNDEFINED);
        TestKit.due("29 more are made", TestKit.global(engine, 'n'), TestKit.num(60));
        TestKit.due("those that throw use their ticks", TestKit.global(engine, 't'), TestKit.num(32));
        answers(engine, H, 61, TestKit.THROWN, TestKit.err(3));
        answers(engine, H, 62, TestKit.STOPPED, TestKit.UNDEFINED);
    }

    private static void countedForTooLittleRoom() {
        TestKit.sentence("(a call that throws here is not counted; one that throws later for too little room is)");
        BridgedScriptEngine engine = TestKit.ran("n = 0; function f() { n += 1; function k() { } } function g() { n += 100; if (0) { a = function () { } } } "
            + "function h(a) { while (a) { a -= 1; o = {} } }");
        answers(engine, H, 45, TestKit.DONE, TestKit.UNDEFINED);
        for (int i = 1; i <= 59; i++) {
            answers(engine, F, 0, TestKit.THROWN, TestKit.err(3));
        }
        TestKit.due("no body", TestKit.global(engine, 'n'), TestKit.num(0));
        answers(engine, G, 0, TestKit.DONE, TestKit.UNDEFINED);
        TestKit.due("the 60th has one", TestKit.global(engine, 'n'), TestKit.num(100));
        answers(engine, G, 0, TestKit.THROWN, TestKit.err(3));
        TestKit.due("the 61st has none", TestKit.global(engine, 'n'), TestKit.num(100));
    }

    private static void bindingArguments() {
        TestKit.sentence("Arguments are bound to the parameters in order (too many are dropped, missing ones are undefined, of two equal parameters the last counts)");
        String f = "function f(a, b, c) { o = {a : a, b : b, c : c} } ";
        String[] calls = {"f()", "f(1)", "f(1, 2)", "f(1, 2, 3)"};
        for (int given = 0; given < calls.length; given++) {
            BridgedScriptEngine engine = TestKit.ran(f + calls[given]);
            for (int p = 0; p < 3; p++) {
                TestKit.due(calls[given] + " parameter " + p, engine.prop(TestKit.name('o'), p), p < given ? TestKit.num(p + 1) : TestKit.UNDEFINED);
            }
        }
        TestKit.leaves("function f(a, b) { return b } f(1, 2); r = f(1)", TestKit.UNDEFINED);
        TestKit.leaves("function f(a) { return a } f(1, 2, 3); r = f()", TestKit.UNDEFINED);
        TestKit.leaves("function f(a, b, c) { return c } 1 + (2 + (3 + 4)); r = f(1, 2)", TestKit.UNDEFINED);
        TestKit.leaves("function f() { return 9 } r = f(1, 2, 3)", TestKit.num(9));
        TestKit.leaves("function f(a) { return a } r = f(1, 2, 3)", TestKit.num(1));
        TestKit.leaves("b = 7; function f(a) { return b } r = f(1, 2, 3)", TestKit.num(7));
        TestKit.leaves("function f(a, a) { return a } r = f(1, 2)", TestKit.num(2));
        TestKit.leaves("function f(a, a) { return a } r = f(1)", TestKit.UNDEFINED);
        TestKit.leaves("function f(a, b, a) { return a * 10 + b } r = f(1, 2, 3)", TestKit.num(32));
        TestKit.leaves("function f(a, b, a) { return a } r = f(1, 2)", TestKit.UNDEFINED);
        TestKit.leaves("function f(a, a, a) { return a } r = f(1, 2, 3)", TestKit.num(3));
        TestKit.leaves("function f(a, b, b) { return a * 10 + b } r = f(1, 2, 3)", TestKit.num(13));
    }

    private static void otherOwnNames() {
        TestKit.sentence("other own names start undefined");
        TestKit.leaves("a = 1; function f() { return a; var a } r = f()", TestKit.UNDEFINED);
        TestKit.leaves("a = 1; function f() { return a; try { } catch (a) { } } r = f()", TestKit.UNDEFINED);
        TestKit.leaves("function f(n) { var a; if (n) { a = 4; f(0) } else r = a } f(1)", TestKit.UNDEFINED);
    }

    private static void declaredFunctions() {
        TestKit.sentence("then the functions declared in the body are made and assigned in the order of the source");
        TestKit.leaves("function f() { return g(); function g() { return 4 } } r = f()", TestKit.num(4));
        TestKit.leaves("function f() { function g() { return 1 } return g(); function g() { return 2 } } r = f()", TestKit.num(2));
        TestKit.leaves("function f(g) { return g(); function g() { return 3 } } r = f(8)", TestKit.num(3));
        TestKit.leaves("function f() { g = 5; function g() { } return g } r = f()", TestKit.num(5));
        TestKit.leaves("function f() { return 1 } r = f(); function f() { return 2 }", TestKit.num(2));
        TestKit.leaves("function f() { function g() { } return g } r = f() === f()", TestKit.bool(false));
    }

    private static void tooLittleRoomForThem() {
        TestKit.sentence("(too little room throws ERR 3, to the caller)");
        String f = "n = 0; function f() { try { n = 1 } catch (e) { n = 2 } function g() { } function h() { } } ";
        TestKit.leaves(f + "i = 0; while (i < 45) { i += 1; o = {} } f(); r = n", TestKit.num(1));
        TestKit.leaves(f + "i = 0; while (i < 46) { i += 1; o = {} } try { f() } catch (e) { r = e }", TestKit.err(3));
        TestKit.leaves(f + "i = 0; while (i < 46) { i += 1; o = {} } try { f() } catch (e) { r = n }", TestKit.num(0));
        TestKit.throwsValue(f + "i = 0; while (i < 46) { i += 1; o = {} } try { f() } catch (e) { } o = {}", TestKit.err(3));
        TestKit.leaves("function k(n) { if (n) k(n - 1); else try { f() } catch (e) { r = e } } function f() { function g() { } } i = 0; "
            + "while (i < 46) { i += 1; o = {} } k(6)", TestKit.err(3));
    }

    private static void withoutReturn() {
        TestKit.sentence("Without return the answer is undefined.");
        TestKit.leaves("function f() { } r = f()", TestKit.UNDEFINED);
        TestKit.leaves("function f() { 5 } r = f()", TestKit.UNDEFINED);
        TestKit.leaves("function f(a) { if (a) return 5 } r = f(0)", TestKit.UNDEFINED);
        TestKit.leaves("function f(a) { if (a) return 5 } r = f(1)", TestKit.num(5));
        TestKit.leaves("function f() { } r = 5 + f()", TestKit.num(5));
        TestKit.leaves("function f() { return } r = 5 + f()", TestKit.num(5));
        TestKit.leaves("r = 1; function f() { return; r = 2 } f()", TestKit.num(1));
        TestKit.leaves("r = 1; function f() { return\nr = 2 } f()", TestKit.num(1));
        TestKit.leaves("r = 1; function f() { return 3; r = 2 } f()", TestKit.num(1));
        answers(TestKit.ran("function f() { 5 }"), F, 0, TestKit.DONE, TestKit.UNDEFINED);
    }

    private static void theProgramsOwnNames() {
        TestKit.sentence("The same run-up for the program: its own names become undefined, all other globals absent, then its functions are made and assigned.");
        BridgedScriptEngine engine = TestKit.loaded("a = b; c = d; function d() { } throw e; var b; x = 1");
        TestKit.due("run", engine.run(), TestKit.THROWN);
        TestKit.due("e is absent", engine.result(), TestKit.err(2));
        TestKit.due("b was undefined", engine.global(0), TestKit.UNDEFINED);
        TestKit.due("d was a function", engine.global(2), TestKit.fun(0));
        TestKit.due("x is absent", engine.global(23), TestKit.ABSENT);
        TestKit.leaves("r = f(); var f; function f() { return 1 } function f() { return 2 }", TestKit.num(2));
    }

    private static void ticksOfWhile() {
        TestKit.sentence("while uses up one TICK before each evaluation of its condition. One run or call has 64 TICKS");
        TestKit.leaves("r = 0; while (r < 62) r += 1", TestKit.num(62));
        TestKit.leaves("r = 0; while (r < 63) r += 1", TestKit.num(63));
        TestKit.stops("r = 0; while (r < 64) r += 1");
        TestKit.leaves("r = 0; while (true) { r += 1; if (r == 64) break }", TestKit.num(64));
        TestKit.stops("r = 0; while (true) { r += 1; if (r == 65) break }");
        TestKit.leaves("r = 0; while ((r += 1) < 64) ;", TestKit.num(64));
        TestKit.stops("r = 0; while ((r += 1) < 65) ;");
        BridgedScriptEngine engine = TestKit.loaded("r = 0; while (r += 1) continue");
        TestKit.due("run", engine.run(), TestKit.STOPPED);
        TestKit.due("64 conditions were evaluated", TestKit.global(engine, 'r'), TestKit.num(64));
        TestKit.leaves("r = 0; while (r < 30) r += 1; while (r < 62) r += 1", TestKit.num(62));
        TestKit.stops("r = 0; while (r < 30) r += 1; while (r < 63) r += 1");
        TestKit.due("a new run has 64 again", engine.run(), TestKit.STOPPED);
        TestKit.due("64 conditions again", TestKit.global(engine, 'r'), TestKit.num(64));
    }

    private static void ticksOfCalls() {
        TestKit.sentence("One run or call has 64 TICKS");
        String f = "function f() { } r = 0; while (r < 31) { r += 1; f() } ";
        TestKit.leaves(f + "f()", TestKit.num(31));
        TestKit.stops(f + "f(); f()");
        TestKit.stops(f + "f(); while (0) ;");
        BridgedScriptEngine engine = TestKit.ran("function f(n) { r = 0; while (r < n) r += 1; return r } var r");
        for (int round = 0; round < 3; round++) {
            answers(engine, F, 62, TestKit.DONE, TestKit.num(62));
            answers(engine, F, 63, TestKit.STOPPED, TestKit.UNDEFINED);
            TestKit.due("r", TestKit.global(engine, 'r'), TestKit.num(63));
        }
    }

    private static void everythingStops() {
        TestKit.sentence("where one more would be used up, everything stops at once, what was done stays done.");
        BridgedScriptEngine engine = new BridgedScriptEngine();
        engine.overload(12, 5, 0, 0);
        TestKit.feed(engine, "a = 0; o = {}; try { while (true) { a += 1; o.p = a; host.m(a) } } catch (b) { c = 1 } d = 1; var b");
        TestKit.due("load", engine.load(), TestKit.OK);
        TestKit.due("run", engine.run(), TestKit.STOPPED);
        TestKit.due("result", engine.result(), TestKit.UNDEFINED);
        TestKit.due("a", engine.global(0), TestKit.num(64));
        TestKit.due("o.p", engine.prop(TestKit.name('o'), TestKit.name('p')), TestKit.num(64));
        TestKit.due("host calls", engine.traceCount(), 64);
        TestKit.due("nothing is caught", engine.global(1), TestKit.UNDEFINED);
        TestKit.due("no catch block", engine.global(2), TestKit.ABSENT);
        TestKit.due("nothing after it", engine.global(3), TestKit.ABSENT);
        BridgedScriptEngine call = TestKit.loaded("function f() { n += 1 } n = 0; i = 0; while (i < 31) { i += 1; f() } f(); s = 1; t = f(s = 2); s = 3");
        TestKit.due("run", call.run(), TestKit.STOPPED);
        TestKit.due("the argument was evaluated", TestKit.global(call, 's'), TestKit.num(2));
        TestKit.due("no body without a tick", TestKit.global(call, 'n'), TestKit.num(32));
        TestKit.due("no assignment after it", TestKit.global(call, 't'), TestKit.ABSENT);
        answers(call, F, 0, TestKit.DONE, TestKit.UNDEFINED);
        TestKit.due("a call goes on in that world", TestKit.global(call, 'n'), TestKit.num(33));
    }

    private static void tries() {
        TestKit.sentence("try: what is thrown in its block (also out of calls in it) is assigned to the catch NAME");
        TestKit.leaves("try { throw 4 } catch (r) { }", TestKit.num(4));
        TestKit.leaves("try { throw undefined } catch (r) { }", TestKit.UNDEFINED);
        TestKit.leaves("try { throw {p : 1} } catch (r) { }", TestKit.obj(1));
        TestKit.leaves("function f(n) { if (n) f(n - 1); else throw 6 } try { f(7) } catch (r) { }", TestKit.num(6));
        TestKit.leaves("r = 0; try { } catch (e) { r = 1 }", TestKit.num(0));
        TestKit.leaves("r = 0; try { r = 1; throw 2; r = 3 } catch (e) { r += e }", TestKit.num(3));
        TestKit.leaves("try { try { throw 1 } catch (e) { r = e } } catch (e) { r = 9 }", TestKit.num(1));
        TestKit.leaves("i = 0; r = 0; while (i < 9) { i += 1; try { if (i & 1) continue; throw i } catch (e) { r += e } }", TestKit.num(20));
        TestKit.throwsValue("try { f = function () { throw 8 } } catch (e) { } f()", TestKit.num(8));
        TestKit.throwsValue("while (1) { try { break } catch (e) { } } throw 3", TestKit.num(3));
        TestKit.throwsValue("function f() { try { return 1 } catch (e) { } } f(); throw 4", TestKit.num(4));
        TestKit.leaves("r = 100 + (function () { try { 1 + (2 * z()) } catch (e) { return e } })()", TestKit.num(102));
    }

    private static void catchNames() {
        TestKit.sentence("(found as any NAME of that place is)");
        TestKit.leaves("r = 0; function f() { try { throw 1 } catch (r) { } return r } f()", TestKit.num(0));
        TestKit.leaves("function f() { try { throw 1 } catch (a) { } return a } r = f()", TestKit.num(1));
        TestKit.leaves("function f(a) { try { throw 1 } catch (a) { } return a } r = f(5)", TestKit.num(1));
        TestKit.leaves("function f() { try { throw 7 } catch (a) { } return function () { return a } } r = f()()", TestKit.num(7));
        TestKit.leaves("try { throw 2 } catch (e) { } r = e", TestKit.num(2));
        TestKit.leaves("e = 5; try { } catch (e) { } r = e", TestKit.num(5));
    }

    private static void throwsInCatch() {
        TestKit.sentence("what is thrown in the catch block goes outward.");
        TestKit.throwsValue("try { throw 1 } catch (e) { throw e + 1 }", TestKit.num(2));
        TestKit.leaves("try { try { throw 1 } catch (e) { throw e + 1 } } catch (r) { }", TestKit.num(2));
        TestKit.leaves("function f() { try { throw 1 } catch (e) { throw e + 1 } } try { f() } catch (r) { }", TestKit.num(2));
        TestKit.leaves("try { throw 1 } catch (e) { try { throw e + 1 } catch (r) { } }", TestKit.num(2));
    }

    private static void newWorlds() {
        TestKit.sentence("Executes the program in a new world: no globals, no objects, the trace empty and its count 0, the host memory 0.");
        BridgedScriptEngine engine = new BridgedScriptEngine();
        engine.overload(12, 5, 0, 2);
        TestKit.feed(engine, "r = host.m(5); function f(n) { while (n) { n -= 1; x = {} } host.m(6); y = 1 }");
        TestKit.due("load", engine.load(), TestKit.OK);
        for (int round = 0; round < 3; round++) {
            TestKit.due("run", engine.run(), TestKit.DONE);
            TestKit.due("the host memory", TestKit.global(engine, 'r'), TestKit.num(36));
            TestKit.due("traceCount", engine.traceCount(), 1);
            TestKit.due("the only host call", engine.traceArg(0, 0), 5);
            TestKit.due("nothing before it", engine.traceMethod(1), -1);
            TestKit.due("x", TestKit.global(engine, 'x'), TestKit.ABSENT);
            TestKit.due("y", TestKit.global(engine, 'y'), TestKit.ABSENT);
            TestKit.due("room for 47 beside f", engine.call(F, 47, 0), TestKit.DONE);
            TestKit.due("traceCount after the call", engine.traceCount(), 2);
        }
        BridgedScriptEngine objects = TestKit.ran("o = {}; p = {}; function f() { o.a = 1; p.b = 2; p.c = 3; f.d = 4 }");
        TestKit.due("call", objects.call(F, 0, 0), TestKit.DONE);
        TestKit.due("p has two", TestKit.global(objects, 'p'), TestKit.obj(2));
        TestKit.due("run", objects.run(), TestKit.DONE);
        TestKit.due("no old properties in o", TestKit.global(objects, 'o'), TestKit.obj(0));
        TestKit.due("nor in p", TestKit.global(objects, 'p'), TestKit.obj(0));
        TestKit.due("nor in f", TestKit.global(objects, 'f'), TestKit.fun(0));
    }

    private static void answersOfRun() {
        TestKit.sentence("Else DONE (result UNDEFINED), THROWN (result: the value thrown), or STOPPED (no tick left; result UNDEFINED).");
        BridgedScriptEngine engine = TestKit.loaded("function f(n) { return n } function g() { throw 8 } 5");
        TestKit.due("run", engine.run(), TestKit.DONE);
        TestKit.due("result", engine.result(), TestKit.UNDEFINED);
        answers(engine, F, 7, TestKit.DONE, TestKit.num(7));
        TestKit.due("run", engine.run(), TestKit.DONE);
        TestKit.due("result again", engine.result(), TestKit.UNDEFINED);
        TestKit.throwsValue("throw 4", TestKit.num(4));
        TestKit.throwsValue("throw undefined", TestKit.UNDEFINED);
        TestKit.throwsValue("throw null", TestKit.NULL);
        TestKit.throwsValue("throw false", TestKit.bool(false));
        TestKit.throwsValue("throw {p : 1}", TestKit.obj(1));
        BridgedScriptEngine stopped = TestKit.loaded("function g() { throw 8 } while (true) ;");
        TestKit.due("run", stopped.run(), TestKit.STOPPED);
        answers(stopped, G, 0, TestKit.THROWN, TestKit.num(8));
        TestKit.due("run", stopped.run(), TestKit.STOPPED);
        TestKit.due("result", stopped.result(), TestKit.UNDEFINED);
    }

    private static BridgedScriptEngine busy() {
        BridgedScriptEngine engine = new BridgedScriptEngine();
        engine.overload(12, 5, 0, 0);
        TestKit.feed(engine, "var u; o = {p : 1}; function f(a) { n += a; host.m(a); return o } n = 0; b = true; c = null; try { q } catch (e) { }");
        TestKit.due("load", engine.load(), TestKit.OK);
        TestKit.due("run", engine.run(), TestKit.DONE);
        TestKit.due("call", engine.call(F, 3, 0), TestKit.DONE);
        return engine;
    }

    private static void runNotLoaded() {
        TestKit.sentence("NOT_LOADED if nothing is loaded; then nothing changes.");
        TestKit.due("a new object", new BridgedScriptEngine().run(), TestKit.NOT_LOADED);
        for (int way = 0; way < 3; way++) {
            BridgedScriptEngine engine = busy();
            if (way == 0) {
                engine.token(55, 0);
            } else if (way == 1) {
                engine.token(2, 0);
            } else {
                engine.wipe();
            }
            List<Long> before = TestKit.seen(engine);
            TestKit.due("run", engine.run(), TestKit.NOT_LOADED);
            TestKit.due("run again", engine.run(), TestKit.NOT_LOADED);
            TestKit.unchanged("after a run that was not loaded", engine, before);
        }
        BridgedScriptEngine wrong = TestKit.fed("a b");
        TestKit.due("load", wrong.load(), TestKit.SYNTAX);
        TestKit.due("run", wrong.run(), TestKit.NOT_LOADED);
        TestKit.due("errorAt", wrong.errorAt(), 1);
    }

    private static void callNotLoaded() {
        TestKit.sentence("NOT_LOADED if nothing is loaded, then NO_FUNCTION if global f is absent or no function object or f is outside 0..25; nothing changes then.");
        BridgedScriptEngine engine = busy();
        TestKit.due("token", engine.token(2, 0), true);
        List<Long> before = TestKit.seen(engine);
        for (int f : new int[] {F, 25, TestKit.name('o'), -1, 26, Integer.MIN_VALUE, Integer.MAX_VALUE}) {
            TestKit.due("call of " + f, engine.call(f, 1, 2), TestKit.NOT_LOADED);
        }
        TestKit.unchanged("after calls that were not loaded", engine, before);
    }

    private static void noFunction() {
        BridgedScriptEngine engine = busy();
        List<Long> before = TestKit.seen(engine);
        int[] none = {-1, 26, 27, Integer.MIN_VALUE, Integer.MAX_VALUE, 25, TestKit.name('u'), TestKit.name('o'), TestKit.name('n'), TestKit.name('b'),
            TestKit.name('c'), TestKit.name('e')};
        for (int f : none) {
            TestKit.due("call of " + f, engine.call(f, 1, 2), TestKit.NO_FUNCTION);
        }
        TestKit.unchanged("after calls of no function", engine, before);
        TestKit.due("still loaded", engine.call(F, 1, 2), TestKit.DONE);
        BridgedScriptEngine hidden = new BridgedScriptEngine();
        hidden.overload(12, 0, 0, 2);
        TestKit.feed(hidden, "function f() { o = {}; return host.m() } i = 0; while (i < 45) { i += 1; o = {} }");
        TestKit.due("load", hidden.load(), TestKit.OK);
        TestKit.due("run", hidden.run(), TestKit.DONE);
        answers(hidden, F, 0, TestKit.DONE, TestKit.num(1));
        for (int f : none) {
            TestKit.due("call of " + f, hidden.call(f, 1, 2), TestKit.NO_FUNCTION);
        }
        answers(hidden, F, 0, TestKit.DONE, TestKit.num(32));
        answers(hidden, F, 0, TestKit.THROWN, TestKit.err(3));
        BridgedScriptEngine ends = TestKit.ran("function a(n) { return n } function z(n) { return n + 1 }");
        answers(ends, 0, 4, TestKit.DONE, TestKit.num(4));
        answers(ends, 25, 4, TestKit.DONE, TestKit.num(5));
        BridgedScriptEngine early = TestKit.loaded("function f() { }");
        TestKit.due("loaded but not run", early.call(F, 0, 0), TestKit.NO_FUNCTION);
    }

    private static void answersOfCall() {
        TestKit.sentence("Else it executes the call and answers DONE (result: the function's answer), THROWN or STOPPED (as in run).");
        BridgedScriptEngine engine = TestKit.ran("function f(a, b) { if (a == 1) return b; if (a == 2) throw b; if (a == 3) while (true) ; if (a == 4) return f; if (a == 5) return z }");
        int[] numbers = {0, 1, -1, Integer.MAX_VALUE, Integer.MIN_VALUE};
        for (int b : numbers) {
            TestKit.due("call", engine.call(F, 1, b), TestKit.DONE);
            TestKit.due("result " + b, engine.result(), TestKit.num(b));
            TestKit.due("call", engine.call(F, 2, b), TestKit.THROWN);
            TestKit.due("thrown " + b, engine.result(), TestKit.num(b));
        }
        answers(engine, F, 3, TestKit.STOPPED, TestKit.UNDEFINED);
        answers(engine, F, 4, TestKit.DONE, TestKit.fun(0));
        answers(engine, F, 5, TestKit.THROWN, TestKit.err(2));
        answers(engine, F, 6, TestKit.DONE, TestKit.UNDEFINED);
        TestKit.sentence("Calls the function in global f (0..25) with the NUMs a and b, in the world as it is.");
        BridgedScriptEngine world = TestKit.ran("n = 0; function f(a, b, c) { n += a; o = {a : a, b : b, c : c}; return n }");
        TestKit.due("call", world.call(F, 5, -6), TestKit.DONE);
        TestKit.due("a", world.prop(TestKit.name('o'), 0), TestKit.num(5));
        TestKit.due("b", world.prop(TestKit.name('o'), 1), TestKit.num(-6));
        TestKit.due("c", world.prop(TestKit.name('o'), 2), TestKit.UNDEFINED);
        answers(world, F, 8, TestKit.DONE, TestKit.num(13));
    }

    private static void anActiveCall() {
        TestKit.sentence("It is an active call and uses a tick.");
        BridgedScriptEngine engine = TestKit.ran("function f(n) { return n ? 1 + f(n - 1) : 1 } function g() { r = 0; while (r += 1) ; } var r");
        answers(engine, F, 7, TestKit.DONE, TestKit.num(8));
        answers(engine, F, 8, TestKit.THROWN, TestKit.err(3));
        answers(engine, F, 7, TestKit.DONE, TestKit.num(8));
        answers(engine, G, 0, TestKit.STOPPED, TestKit.UNDEFINED);
        TestKit.due("63 ticks were left", TestKit.global(engine, 'r'), TestKit.num(63));
    }
}
