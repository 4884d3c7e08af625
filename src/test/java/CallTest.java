/** Promise 8 and the meaning of functions, scopes, calls, objects and room. */
public final class CallTest {
    private static final int F = TestKit.name('f');

    public static void main(String[] args) {
        answersOfCall();
        callInTheWorld();
        ticksOfCall();
        argumentsAndParameters();
        scopes();
        declaredFunctions();
        orderOfCalls();
        depth();
        objects();
        roomForObjects();
        roomForScopes();
        TestKit.end();
    }

    private static void answersOfCall() {
        BridgedScriptEngine engine = TestKit.loaded("function f(a, b) { if (a == 1) return b; if (a == 2) throw b; "
            + "if (a == 3) while (true) ; if (a == 4) return f; if (a == 5) throw {x : 1} } var u; n = 1; o = {}");
        TestKit.due("call before run", engine.call(F, 1, 7), TestKit.NO_FUNCTION);
        TestKit.due("run", engine.run(), TestKit.DONE);
        answers(engine, 1, 7, TestKit.DONE, TestKit.num(7));
        answers(engine, 2, -8, TestKit.THROWN, TestKit.num(-8));
        answers(engine, 3, 7, TestKit.STOPPED, TestKit.UNDEFINED);
        answers(engine, 1, Integer.MIN_VALUE, TestKit.DONE, TestKit.num(Integer.MIN_VALUE));
        answers(engine, 4, 7, TestKit.DONE, TestKit.fun(0));
        answers(engine, 0, 7, TestKit.DONE, TestKit.UNDEFINED);
        answers(engine, 5, 7, TestKit.THROWN, TestKit.obj(1));
        int[] noFunctions = {-1, 26, Integer.MIN_VALUE, Integer.MAX_VALUE, 25, TestKit.name('u'), TestKit.name('n'), TestKit.name('o')};
        for (int g : noFunctions) {
            TestKit.due("call of " + g, engine.call(g, 1, 2), TestKit.NO_FUNCTION);
            TestKit.due("result after it", engine.result(), TestKit.obj(1));
        }
        TestKit.due("token", engine.token(2, 0), true);
        TestKit.due("call when not loaded", engine.call(F, 1, 2), TestKit.NOT_LOADED);
        TestKit.due("call of no function when not loaded", engine.call(-1, 1, 2), TestKit.NOT_LOADED);
    }

    private static void answers(BridgedScriptEngine engine, int a, int b, int status, long result) {
        TestKit.due("call " + a, engine.call(F, a, b), status);
        TestKit.due("result of call " + a, engine.result(), result);
    }

    private static void callInTheWorld() {
        BridgedScriptEngine engine = TestKit.ran("n = 0; function f(a, b) { n += a; m = b; g = function () { return n } }");
        TestKit.due("call", engine.call(F, 5, 6), TestKit.DONE);
        TestKit.due("call", engine.call(F, 7, 8), TestKit.DONE);
        TestKit.due("n", TestKit.global(engine, 'n'), TestKit.num(12));
        TestKit.due("m", TestKit.global(engine, 'm'), TestKit.num(8));
        TestKit.due("call g", engine.call(TestKit.name('g'), 0, 0), TestKit.DONE);
        TestKit.due("result", engine.result(), TestKit.num(12));
        TestKit.due("run", engine.run(), TestKit.DONE);
        TestKit.due("n anew", TestKit.global(engine, 'n'), TestKit.num(0));
        TestKit.due("g anew", engine.call(TestKit.name('g'), 0, 0), TestKit.NO_FUNCTION);
        BridgedScriptEngine after = TestKit.loaded("function f() { n += 1; return n } n = 0; throw 1");
        TestKit.due("run", after.run(), TestKit.THROWN);
        TestKit.due("call after a throw", after.call(F, 0, 0), TestKit.DONE);
        TestKit.due("result", after.result(), TestKit.num(1));
        BridgedScriptEngine tried = TestKit.ran("try { f = function () { throw 3 } } catch (e) { }");
        TestKit.due("a try of the program is not around a call", tried.call(F, 0, 0), TestKit.THROWN);
        TestKit.due("result", tried.result(), TestKit.num(3));
    }

    private static void ticksOfCall() {
        BridgedScriptEngine engine = TestKit.ran("function f(a) { n = 0; while (n < a) n += 1; return n } var n");
        for (int i = 0; i < 3; i++) {
            answers(engine, 62, 0, TestKit.DONE, TestKit.num(62));
            answers(engine, 63, 0, TestKit.STOPPED, TestKit.UNDEFINED);
            TestKit.due("rounds before the stop", TestKit.global(engine, 'n'), TestKit.num(63));
        }
        TestKit.leaves("function f() {} r = 0; while (r < 31) { f(); r += 1 } f()", TestKit.num(31));
        TestKit.stops("function f() {} r = 0; while (r < 31) { f(); r += 1 } f(); f()");
        BridgedScriptEngine host = new BridgedScriptEngine();
        host.overload(7, 0, 0, 2);
        TestKit.feed(host, "r = 0; while (r < 63) { host.h(); host.h(); r += 1 }");
        TestKit.due("load", host.load(), TestKit.OK);
        TestKit.due("host calls use no tick", host.run(), TestKit.DONE);
        TestKit.stops("function f() {} try { while (true) { f() } } catch (e) {}");
        TestKit.leaves("function f() { f() } r = 0; while (r < 6) { r += 1; try { f() } catch (e) { } }", TestKit.num(6));
        TestKit.leaves("function f() { f() } r = 0; while (r < 7) { r += 1; try { f() } catch (e) { } if (r == 7) break }",
            TestKit.num(7));
        TestKit.stops("function f() { f() } r = 0; while (r < 8) { r += 1; try { f() } catch (e) { } }");
    }

    private static void argumentsAndParameters() {
        TestKit.leaves("function f(a, b) { return a * 10 + b } r = f(1, 2)", TestKit.num(12));
        TestKit.leaves("function f(a, b) { return b } r = f(1)", TestKit.UNDEFINED);
        TestKit.leaves("function f(a) { return a } r = f(1, 2, 3)", TestKit.num(1));
        TestKit.leaves("function f() { return 9 } r = f(1, 2, 3)", TestKit.num(9));
        TestKit.leaves("function f(a, a) { return a } r = f(1, 2)", TestKit.num(2));
        TestKit.leaves("function f(a, a) { return a } r = f(1)", TestKit.UNDEFINED);
        TestKit.leaves("function f(a, b, a) { return a } r = f(1, 2, 3)", TestKit.num(3));
        TestKit.leaves("function f(a) { a = 5; return a } var a = 1; f(2); r = a", TestKit.num(1));
        TestKit.leaves("function f(a) { var a; return a } r = f(3)", TestKit.num(3));
        TestKit.leaves("function f(o) { o.p = 4 } var o = {}; f(o); r = o.p", TestKit.num(4));
        TestKit.leaves("r = (function (a, b, c) { return a - b - c })(9, 3, 2)", TestKit.num(4));
        TestKit.leaves("function f() { } r = f()", TestKit.UNDEFINED);
        TestKit.leaves("function f() { return } r = f()", TestKit.UNDEFINED);
        TestKit.leaves("function f() { return } r = 5 + f()", TestKit.num(5));
        TestKit.leaves("function f() { } r = 5 + f()", TestKit.num(5));
        TestKit.leaves("function f() { return 1; return 2 } r = f()", TestKit.num(1));
        TestKit.leaves("function f() { while (true) { return 5 } } r = f()", TestKit.num(5));
        BridgedScriptEngine engine = TestKit.ran("function f(a, b, c) { return c } function g() { return 1 } function h(a) { return a }");
        answers(engine, 4, 5, TestKit.DONE, TestKit.UNDEFINED);
        TestKit.due("call g", engine.call(TestKit.name('g'), 4, 5), TestKit.DONE);
        TestKit.due("result", engine.result(), TestKit.num(1));
        TestKit.due("call h", engine.call(TestKit.name('h'), 4, 5), TestKit.DONE);
        TestKit.due("result", engine.result(), TestKit.num(4));
    }

    private static void scopes() {
        TestKit.leaves("function f() { var a; return a } a = 1; f(); r = f()", TestKit.UNDEFINED);
        TestKit.leaves("function f(n) { var a; a += n; return a } f(1); f(2); r = f(4)", TestKit.num(4));
        TestKit.leaves("function f() { a = 7 } f(); r = a", TestKit.num(7));
        TestKit.leaves("function f() { a = 7; if (0) { var a } } a = 1; f(); r = a", TestKit.num(1));
        TestKit.leaves("function m() { var c = 0; return function () { return c += 1 } } a = m(); b = m(); a(); a(); r = a() * 10 + b()",
            TestKit.num(31));
        TestKit.leaves("function f(a) { return function (b) { return function (c) { return a * 100 + b * 10 + c } } } r = f(1)(2)(3)",
            TestKit.num(123));
        TestKit.leaves("function f(a) { return function (b) { return function (c) { a += b + c; return a } } } g = f(1)(2); g(3); r = g(3)",
            TestKit.num(11));
        TestKit.leaves("a = 1; function f() { return a } function g(a) { return f() } r = g(5)", TestKit.num(1));
        TestKit.leaves("function f(n) { var k = n; if (n > 0) f(n - 1); return k } r = f(4)", TestKit.num(4));
        TestKit.leaves("function f(n) { if (n < 2) return n; return f(n - 1) + f(n - 2) } r = f(6)", TestKit.num(8));
        TestKit.leaves("function f(a) { g = function () { return a }; a = 8 } f(1); r = g()", TestKit.num(8));
        TestKit.leaves("function f() { return a; var a } a = 3; r = f()", TestKit.UNDEFINED);
        TestKit.throwsValue("function f() { var z; return function () { return y } } f()()", TestKit.err(2));
        TestKit.leaves("function f(a) { function g() { a = a + 1; return a } return g } h = f(1); f(5); h(); r = h()", TestKit.num(3));
        TestKit.leaves("function f(a, b) { try { throw b } catch (a) { } return function () { return a } } r = f(1, 2)()", TestKit.num(2));
    }

    private static void declaredFunctions() {
        TestKit.leaves("function f() { return g(); function g() { return 4 } } r = f()", TestKit.num(4));
        TestKit.leaves("function f(g) { function g() { } return g } r = f(4)", TestKit.fun(0));
        TestKit.leaves("function f() { var g = 4; function g() { } return g } r = f()", TestKit.num(4));
        TestKit.leaves("function f() { function g() { return 1 } function g() { return 2 } return g() } r = f()", TestKit.num(2));
        TestKit.leaves("function f() { return 1 } g = f; function g() { } r = f === g", TestKit.bool(true));
        TestKit.leaves("function f() { function g() { } return g } r = f() === f()", TestKit.bool(false));
        TestKit.leaves("g = 5; function f() { function g() { } } f(); r = g", TestKit.num(5));
        TestKit.leaves("function f() { f.a = 1; f.b = 2; return f } r = f()", TestKit.fun(2));
    }

    private static void orderOfCalls() {
        TestKit.throwsValue("1()", TestKit.err(1));
        TestKit.throwsValue("({})()", TestKit.err(1));
        TestKit.throwsValue("undefined()", TestKit.err(1));
        TestKit.throwsValue("null(z)", TestKit.err(2));
        TestKit.throwsValue("z(1 / 0)", TestKit.err(2));
        TestKit.throwsValue("var o = {}; o.p()", TestKit.err(1));
        BridgedScriptEngine engine = TestKit.loaded("1(a = 2, b = 3)");
        TestKit.due("run", engine.run(), TestKit.THROWN);
        TestKit.due("arguments are evaluated first", TestKit.global(engine, 'b'), TestKit.num(3));
        TestKit.leaves("function f(a) { return a } g = f; r = f(f = 5)", TestKit.num(5));
        TestKit.leaves("r = 0; function f(a) { r = r * 10 + a; return f } f(1)(f(2) && 3)(4)", TestKit.num(1234));
        TestKit.leaves("i = 0; function n() { return i += 1 } r = n() * 100 + n() * 10 + n()", TestKit.num(123));
        TestKit.leaves("i = 0; function n() { return i += 1 } o = {a : n(), b : n()}; r = o.a * 10 + o.b", TestKit.num(12));
    }

    private static void depth() {
        TestKit.leaves("function f(n) { return n ? f(n - 1) + 1 : 1 } r = f(7)", TestKit.num(8));
        TestKit.throwsValue("function f(n) { return n ? f(n - 1) + 1 : 1 } f(8)", TestKit.err(3));
        TestKit.leaves("function f() { n += 1; try { f() } catch (e) { r = e } } n = 0; f(); r = r * 100 + n", TestKit.num(308));
        BridgedScriptEngine engine = TestKit.ran("function f(n) { return n ? f(n - 1) + 1 : 1 }");
        answers(engine, 7, 0, TestKit.DONE, TestKit.num(8));
        answers(engine, 8, 0, TestKit.THROWN, TestKit.err(3));
        answers(engine, 0, 0, TestKit.DONE, TestKit.num(1));
        TestKit.leaves("function f(n) { if (n) f(n - 1); else 1(2) } i = 0; while (i < 5) { i += 1; try { f(7) } catch (r) { } }",
            TestKit.err(1));
        TestKit.throwsValue("function f() { try { f() } catch (e) { throw 5 + e } } f()", TestKit.num(43));
        TestKit.throwsValue("function f(n) { if (n) f(n - 1); else n(1, f(9)) } f(7)", TestKit.err(3));
        BridgedScriptEngine deepest = TestKit.ran("t = 0; function f(n) { if (n) return f(n - 1); try { f(0) } catch (e) { t = e } while (true) t += 1 }");
        TestKit.due("too deep uses no tick", deepest.call(F, 7, 0), TestKit.STOPPED);
        TestKit.due("ticks left for the loop", TestKit.global(deepest, 't'), TestKit.num(3 + 56));
    }

    private static void objects() {
        TestKit.yields("{a : 5}.a", TestKit.num(5));
        TestKit.yields("{a : 5}.b", TestKit.UNDEFINED);
        TestKit.throwsValue("1.a", TestKit.err(1));
        TestKit.throwsValue("null.a", TestKit.err(1));
        TestKit.throwsValue("undefined.a", TestKit.err(1));
        TestKit.throwsValue("true.a = 1", TestKit.err(1));
        TestKit.throwsValue("try { z } catch (e) { e.a }", TestKit.err(1));
        TestKit.throwsValue("o = {}; o.a.b = 1", TestKit.err(1));
        TestKit.throwsValue("1.a = z", TestKit.err(1));
        TestKit.throwsValue("1.a += z", TestKit.err(1));
        TestKit.leaves("o = {}; r = o.a = 3", TestKit.num(3));
        TestKit.leaves("o = {a : 1}; o.a = 3; r = o", TestKit.obj(1));
        TestKit.leaves("o = {a : 1}; r = o.a += 3", TestKit.num(4));
        TestKit.leaves("o = {}; o.a -= 3; r = o.a", TestKit.num(-3));
        TestKit.leaves("o = {a : 6}; o.a *= o.a; o.a &= 12; r = o.a", TestKit.num(4));
        TestKit.leaves("o = {a : 1}; p = o; o.a += (o.a = 10); r = p.a", TestKit.num(11));
        TestKit.leaves("o = {a : 1}; p = o; o.a = (o = {a : 5}).a; r = p.a * 10 + o.a", TestKit.num(55));
        TestKit.leaves("o = {a : {b : {c : 7}}}; o.a.b.c += 1; r = o.a.b.c", TestKit.num(8));
        TestKit.leaves("o = {f : function (x) { return x + 1 }}; r = o.f(4)", TestKit.num(5));
        TestKit.leaves("function f() { } f.a = 1; r = f.a", TestKit.num(1));
        TestKit.leaves("o = {a : 1, b : 2, c : 3, d : 4}; o.d = 5; r = o.d", TestKit.num(5));
        TestKit.throwsValue("o = {a : 1, b : 2, c : 3, d : 4}; o.e = 5", TestKit.err(3));
        TestKit.throwsValue("o = {a : 1, b : 2, c : 3, d : 4, e : 5}", TestKit.err(3));
        TestKit.throwsValue("o = {a : 1, b : 2, c : 3, d : 4}; o.e += 5", TestKit.err(3));
        TestKit.leaves("o = {a : 1, b : 2, c : 3, d : 4, a : 5, d : 6}; r = o.a + o.d", TestKit.num(11));
        BridgedScriptEngine late = TestKit.loaded("o = {a : 1, b : 2, c : 3, d : 4}; o.e = (r = 7)");
        TestKit.due("run", late.run(), TestKit.THROWN);
        TestKit.due("the right side comes before the room", TestKit.global(late, 'r'), TestKit.num(7));
        TestKit.due("the object is as before", TestKit.global(late, 'o'), TestKit.obj(4));
        BridgedScriptEngine literal = TestKit.loaded("o = {a : 1}; o = {b : z}");
        TestKit.due("run", literal.run(), TestKit.THROWN);
        TestKit.due("o is as before", TestKit.global(literal, 'o'), TestKit.obj(1));
        TestKit.leaves("o = {a : 1, b : r = 4}; r += o.b", TestKit.num(8));
        TestKit.leaves("o = {}; o.o = o; o.o.o.o.p = 3; r = o.p", TestKit.num(3));
    }

    private static void roomForObjects() {
        TestKit.leaves("r = 0; while (r < 48) { o = {}; r += 1 }", TestKit.num(48));
        BridgedScriptEngine engine = TestKit.loaded("r = 0; while (true) { o = {}; r += 1 }");
        TestKit.due("run", engine.run(), TestKit.THROWN);
        TestKit.due("result", engine.result(), TestKit.err(3));
        TestKit.due("objects made", TestKit.global(engine, 'r'), TestKit.num(48));
        TestKit.due("run again", engine.run(), TestKit.THROWN);
        TestKit.due("objects made again", TestKit.global(engine, 'r'), TestKit.num(48));
        BridgedScriptEngine mixed = TestKit.loaded("function f() { } r = 0; while (true) { o = r & 1 ? {} : function () { }; r += 1 }");
        TestKit.due("run", mixed.run(), TestKit.THROWN);
        TestKit.due("functions count too", TestKit.global(mixed, 'r'), TestKit.num(47));
        TestKit.throwsValue("i = 0; while (i < 48) { o = {}; i += 1 } o = {a : z}", TestKit.err(3));
        TestKit.throwsValue("i = 0; while (i < 48) { o = {}; i += 1 } o = function () { }", TestKit.err(3));
        BridgedScriptEngine full = TestKit.ran("i = 0; while (i < 48) { i += 1; o = {a : i, b : o, c : i + 1, d : i + 2} } var o");
        TestKit.due("the last property of the last object", full.prop(TestKit.name('o'), 3), TestKit.num(50));
        TestKit.due("the object before it", full.prop(TestKit.name('o'), 1), TestKit.obj(4));
        BridgedScriptEngine calls = TestKit.ran("function f(n) { while (n) { o = {}; n -= 1 } }");
        answers(calls, 40, 0, TestKit.DONE, TestKit.UNDEFINED);
        answers(calls, 7, 0, TestKit.DONE, TestKit.UNDEFINED);
        answers(calls, 1, 0, TestKit.THROWN, TestKit.err(3));
        TestKit.due("run", calls.run(), TestKit.DONE);
        answers(calls, 47, 0, TestKit.DONE, TestKit.UNDEFINED);
        TestKit.leaves("function f() { n = 1; try { n = 2 } catch (e) { } function g() { } function h() { } } n = 0; i = 0; "
            + "while (i < 46) { o = {}; i += 1 } try { f() } catch (r) { } r = r * 10 + n", TestKit.num(30));
    }

    private static void roomForScopes() {
        BridgedScriptEngine engine = TestKit.ran("n = 0; function f(a) { n += 1; if (a) return function () { } }");
        for (int i = 0; i < 60; i++) {
            answers(engine, 0, 0, TestKit.DONE, TestKit.UNDEFINED);
        }
        answers(engine, 0, 0, TestKit.THROWN, TestKit.err(3));
        answers(engine, 0, 0, TestKit.THROWN, TestKit.err(3));
        TestKit.due("bodies executed", TestKit.global(engine, 'n'), TestKit.num(60));
        TestKit.due("run", engine.run(), TestKit.DONE);
        answers(engine, 1, 0, TestKit.DONE, TestKit.fun(0));
        BridgedScriptEngine plain = TestKit.ran("function f(a) { return a }");
        for (int i = 0; i < 100; i++) {
            answers(plain, i, 0, TestKit.DONE, TestKit.num(i));
        }
        BridgedScriptEngine tick = TestKit.ran("function f() { return function () { } } function g() { n = 0; "
            + "while (true) { n += 1; try { f() } catch (e) { } } } n = 0; while (n < 30) { f; n += 1 }");
        TestKit.due("run g", tick.call(TestKit.name('g'), 0, 0), TestKit.STOPPED);
        TestKit.due("32 rounds of two ticks", TestKit.global(tick, 'n'), TestKit.num(32));
        TestKit.due("run g", tick.call(TestKit.name('g'), 0, 0), TestKit.STOPPED);
        TestKit.due("a refused call uses its tick", TestKit.global(tick, 'n'), TestKit.num(32));
        countedWithoutRoom();
        notCountedWithoutTick();
        keptScopes();
    }

    /** A call that finds no tick has not taken one of the 60 places. */
    private static void notCountedWithoutTick() {
        BridgedScriptEngine engine = TestKit.ran("n = 0; function f() { n += 100; if (0) { z = function () { } } } "
            + "function h(a) { while (a) a -= 1; f() }");
        for (int i = 0; i < 70; i++) {
            TestKit.due("stop " + i, engine.call(TestKit.name('h'), 62, 0), TestKit.STOPPED);
        }
        TestKit.due("no body of f was executed", TestKit.global(engine, 'n'), TestKit.num(0));
        answers(engine, 0, 0, TestKit.DONE, TestKit.UNDEFINED);
        TestKit.due("n", TestKit.global(engine, 'n'), TestKit.num(100));
    }

    /** The scopes of the last places stay apart from those of the deepest calls. */
    private static void keptScopes() {
        BridgedScriptEngine kept = TestKit.ran("function f(a) { var k = a; if (a == 0) return; p = a == 1 ? function () { return k } : p; "
            + "q = a == 2 ? function () { return k } : q; s = a == 3 ? function () { return k } : s } "
            + "function g(n) { var k = 7; if (n) g(n - 1) } var p; var q; var s");
        for (int i = 0; i < 57; i++) {
            answers(kept, 0, 0, TestKit.DONE, TestKit.UNDEFINED);
        }
        for (int a = 1; a <= 3; a++) {
            answers(kept, a, 0, TestKit.DONE, TestKit.UNDEFINED);
        }
        TestKit.due("deep calls", kept.call(TestKit.name('g'), 7, 0), TestKit.DONE);
        char[] holders = {'p', 'q', 's'};
        for (int a = 1; a <= 3; a++) {
            TestKit.due("call of " + holders[a - 1], kept.call(TestKit.name(holders[a - 1]), 0, 0), TestKit.DONE);
            TestKit.due("k of place " + (57 + a), kept.result(), TestKit.num(a));
        }
        answers(kept, 0, 0, TestKit.THROWN, TestKit.err(3));
    }

    /** A call that fails for too little room for its functions has taken one of the 60 places. */
    private static void countedWithoutRoom() {
        BridgedScriptEngine engine = TestKit.ran("n = 0; function f() { n += 1; function g() { } } function h(a) { while (a) { o = {}; a -= 1 } }"
            + " function k() { n += 100; if (0) { z = function () { } } }");
        TestKit.due("fill", engine.call(TestKit.name('h'), 45, 0), TestKit.DONE);
        for (int i = 0; i < 59; i++) {
            answers(engine, 0, 0, TestKit.THROWN, TestKit.err(3));
        }
        TestKit.due("no body of f was executed", TestKit.global(engine, 'n'), TestKit.num(0));
        TestKit.due("place 60", engine.call(TestKit.name('k'), 0, 0), TestKit.DONE);
        TestKit.due("n", TestKit.global(engine, 'n'), TestKit.num(100));
        TestKit.due("no place 61", engine.call(TestKit.name('k'), 0, 0), TestKit.THROWN);
        TestKit.due("result", engine.result(), TestKit.err(3));
        TestKit.due("n", TestKit.global(engine, 'n'), TestKit.num(100));
    }
}
