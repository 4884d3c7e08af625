/** The edges of names, properties, assignments and ROOM in MEANING, a sentence at a time. */
public final class EdgesOfObjectsTest {
    private static final int F = TestKit.name('f');
    private static final String FULL = "o = {a : 1, b : 2, c : 3, d : 4}; ";

    public static void main(String[] args) {
        leftToRight();
        nearestNames();
        absentGlobals();
        ownScopes();
        keptScopes();
        readingProperties();
        assigningProperties();
        fourProperties();
        theValueAssigned();
        compoundAssignments();
        compoundProperties();
        objectsFirst();
        newFunctions();
        room();
        roomSinceTheLastRun();
        variables();
        TestKit.end();
    }

    private static BridgedScriptEngine thrown(String source, int code) {
        BridgedScriptEngine engine = TestKit.loaded(source);
        TestKit.due("run of " + source, engine.run(), TestKit.THROWN);
        TestKit.due("result of " + source, engine.result(), TestKit.err(code));
        return engine;
    }

    private static void leftToRight() {
        TestKit.sentence("Everything is done from left to right.");
        String n = "i = 0; function n() { return i += 1 } ";
        TestKit.leaves(n + "r = n() * 100 + n() * 10 + n()", TestKit.num(123));
        TestKit.leaves(n + "function g(a, b, c) { return a * 100 + b * 10 + c } r = g(n(), n(), n())", TestKit.num(123));
        TestKit.leaves(n + "o = {b : n(), a : n(), c : n()}; r = o.b * 100 + o.a * 10 + o.c", TestKit.num(123));
        TestKit.leaves("a = 1; r = a * 10 + (a = 2) * 100 + a", TestKit.num(212));
        TestKit.leaves("o = {p : 1}; q = o; o.p = (o = {p : 5}).p + 1; r = q.p * 10 + o.p", TestKit.num(65));
        TestKit.throwsValue("z / y.x(1 / 0)", TestKit.err(2));
    }

    private static void nearestNames() {
        TestKit.sentence("A NAME means the nearest own name of that name among the functions around it, from the inside out, else a global.");
        TestKit.leaves("a = 1; function f() { var a = 2; return function () { var a = 3; return function () { return a } } } r = f()()()", TestKit.num(3));
        TestKit.leaves("a = 1; function f() { var a = 2; return function () { return function () { return a } } } r = f()()()", TestKit.num(2));
        TestKit.leaves("a = 1; function f() { return function () { return function () { return a } } } r = f()()()", TestKit.num(1));
        TestKit.leaves("function f() { var a = 2; return function () { return function () { a = 5; return a } } } f()()(); a = 1; r = a", TestKit.num(1));
        TestKit.leaves("a = 1; function g() { return a } function f() { var a = 2; return g() } r = f()", TestKit.num(1));
        TestKit.leaves("a = 1; function f(a) { return a } r = f()", TestKit.UNDEFINED);
    }

    private static void absentGlobals() {
        TestKit.sentence("Reading a global that is absent throws ERR 2; assigning to an absent global creates it.");
        TestKit.throwsValue("a", TestKit.err(2));
        TestKit.throwsValue("a.b", TestKit.err(2));
        TestKit.throwsValue("a()", TestKit.err(2));
        TestKit.throwsValue("a.b = 1", TestKit.err(2));
        TestKit.throwsValue("function f() { return a } f()", TestKit.err(2));
        TestKit.leaves("var a; r = a", TestKit.UNDEFINED);
        TestKit.leaves("a = undefined; r = a", TestKit.UNDEFINED);
        TestKit.leaves("function f() { r = 4 } f()", TestKit.num(4));
        BridgedScriptEngine engine = thrown("a = b", 2);
        TestKit.due("a is not created", engine.global(0), TestKit.ABSENT);
        TestKit.due("b is not created", engine.global(1), TestKit.ABSENT);
        BridgedScriptEngine made = TestKit.ran("a = undefined");
        TestKit.due("a is created", made.global(0), TestKit.UNDEFINED);
    }

    private static void ownScopes() {
        TestKit.sentence("Each call of a function has its own scope: its own names, fresh.");
        TestKit.leaves("function f(n) { var a; if (n) a = n; return a } f(1); r = f(0)", TestKit.UNDEFINED);
        TestKit.leaves("function f(n) { var a = n; if (n) f(n - 1); return a } r = f(7)", TestKit.num(7));
        TestKit.leaves("function f(n) { var a = n; if (n) f(n - 1); return function () { return a } } r = f(7)()", TestKit.num(7));
        TestKit.leaves("function f(a, b) { if (a) { b = a } return b } f(1); r = f(0)", TestKit.UNDEFINED);
    }

    private static void keptScopes() {
        TestKit.sentence("Functions keep the scope in which they were made.");
        TestKit.leaves("function f(a) { return function () { return a += 1 } } g = f(10); h = f(20); g(); h(); g(); r = g() * 100 + h()", TestKit.num(1322));
        TestKit.leaves("function f(a) { g = function () { return a }; h = function (b) { a = b } } f(1); h(6); r = g()", TestKit.num(6));
        BridgedScriptEngine engine = TestKit.ran("function f(a) { g = function () { return a += 1 } }");
        TestKit.due("call f", engine.call(F, 40, 0), TestKit.DONE);
        TestKit.due("call g", engine.call(TestKit.name('g'), 0, 0), TestKit.DONE);
        TestKit.due("call g", engine.call(TestKit.name('g'), 0, 0), TestKit.DONE);
        TestKit.due("a", engine.result(), TestKit.num(42));
    }

    private static void readingProperties() {
        TestKit.sentence("Reading o.p: o is evaluated, if it is no OBJ then ERR 1; property p, else undefined.");
        for (String value : new String[] {"undefined", "null", "true", "false", "0", "1"}) {
            TestKit.throwsValue("r = " + value + ".a", TestKit.err(1));
        }
        TestKit.throwsValue("try { z } catch (e) { e.a }", TestKit.err(1));
        TestKit.leaves("r = {}.a", TestKit.UNDEFINED);
        TestKit.leaves("r = {b : 1}.a", TestKit.UNDEFINED);
        TestKit.leaves("r = {a : 1}.a", TestKit.num(1));
        TestKit.leaves("function f() { } r = f.a", TestKit.UNDEFINED);
        TestKit.leaves(FULL + "r = o.d", TestKit.num(4));
        TestKit.leaves(FULL + "r = o.e", TestKit.UNDEFINED);
        TestKit.leaves("o = {a : 0, z : 25}; r = o.z", TestKit.num(25));
    }

    private static void assigningProperties() {
        TestKit.sentence("Assigning to o.p: o is evaluated and must be an OBJ (else ERR 1) before the right side is evaluated");
        for (String value : new String[] {"undefined", "null", "true", "0", "1"}) {
            BridgedScriptEngine engine = thrown(value + ".a = b = 1", 1);
            TestKit.due("the right side is not evaluated", engine.global(1), TestKit.ABSENT);
            BridgedScriptEngine adding = thrown(value + ".a += b = 1", 1);
            TestKit.due("nor with +=", adding.global(1), TestKit.ABSENT);
        }
        TestKit.leaves("o = {}; o.p = 1; r = o.p", TestKit.num(1));
        TestKit.leaves("o = {}; q = o; o.p = o = 3; r = q.p", TestKit.num(3));
    }

    private static void fourProperties() {
        TestKit.sentence("then property p is replaced, or added at the end. An object holds at most 4 properties: adding a fifth throws ERR 3.");
        BridgedScriptEngine engine = TestKit.ran("o = {d : 1}; o.c = 2; o.b = 3; o.a = 4; o.c = 5");
        int o = TestKit.name('o');
        int[] names = {3, 2, 1, 0};
        long[] values = {1, 5, 3, 4};
        for (int i = 0; i < 4; i++) {
            TestKit.due("name " + i, engine.propName(o, i), names[i]);
            TestKit.due("value " + i, engine.prop(o, names[i]), TestKit.num((int) values[i]));
        }
        TestKit.leaves("o = {a : 1, b : 2, c : 3}; o.d = 4; r = o", TestKit.obj(4));
        BridgedScriptEngine fifth = thrown(FULL + "o.e = r = 5", 3);
        TestKit.due("the right side was evaluated", TestKit.global(fifth, 'r'), TestKit.num(5));
        TestKit.due("four are left", TestKit.global(fifth, 'o'), TestKit.obj(4));
        TestKit.due("no fifth name", fifth.propName(o, 4), -1);
        TestKit.due("no fifth value", fifth.prop(o, 4), TestKit.ABSENT);
        TestKit.due("the fourth is as before", fifth.prop(o, 3), TestKit.num(4));
        TestKit.throwsValue(FULL + "o.e += 1", TestKit.err(3));
        TestKit.throwsValue("o = {a : 1, b : 2, c : 3, d : 4, e : 5}", TestKit.err(3));
        TestKit.leaves("o = {a : 1, b : 2, c : 3, d : 4, a : 5}; r = o.a", TestKit.num(5));
        for (String name : new String[] {"a", "b", "c", "d"}) {
            TestKit.leaves(FULL + "o." + name + " = 9; r = o." + name, TestKit.num(9));
        }
        TestKit.sentence("A function is an object too and may have properties.");
        TestKit.leaves("function f() { } f.a = 1; f.b = 2; f.c = 3; f.d = 4; r = f", TestKit.fun(4));
        TestKit.throwsValue("function f() { } f.a = 1; f.b = 2; f.c = 3; f.d = 4; f.e = 5", TestKit.err(3));
        TestKit.leaves("function f() { return f.a } f.a = 6; r = f()", TestKit.num(6));
    }

    private static void theValueAssigned() {
        TestKit.sentence("The answer of = is the value assigned.");
        TestKit.leaves("r = a = b = 3", TestKit.num(3));
        TestKit.leaves("o = {}; r = o.p = null", TestKit.NULL);
        TestKit.leaves("o = {}; r = o.p = o", TestKit.obj(1));
        TestKit.leaves("r = (a = undefined)", TestKit.UNDEFINED);
    }

    private static void compoundAssignments() {
        TestKit.sentence("x += e, -=, *=, &=: the old value is read");
        for (String sign : new String[] {"+=", "-=", "*=", "&="}) {
            BridgedScriptEngine absent = thrown("a " + sign + " b = 1", 2);
            TestKit.due("e is not evaluated with " + sign, absent.global(1), TestKit.ABSENT);
            TestKit.due("a is not created with " + sign, absent.global(0), TestKit.ABSENT);
            BridgedScriptEngine object = thrown("a = {}; a " + sign + " b = 1", 1);
            TestKit.due("e is evaluated before the NUM of " + sign, object.global(1), TestKit.num(1));
            TestKit.due("a is as before", object.global(0), TestKit.obj(0));
            TestKit.leaves("var a; r = a " + sign + " 6; r = r === a", TestKit.bool(true));
        }
        TestKit.leaves("r = 5; r += r = 7", TestKit.num(12));
        TestKit.leaves("r = 5; r -= r = 7", TestKit.num(-2));
        TestKit.leaves("r = 5; r *= r = 7", TestKit.num(35));
        TestKit.leaves("r = 5; r &= r = 7", TestKit.num(5));
        TestKit.leaves("a = true; r = a += null", TestKit.num(1));
        TestKit.leaves("function f(a) { a += 1; return a } r = f()", TestKit.num(1));
    }

    private static void compoundProperties() {
        TestKit.sentence("(for o.p: o is evaluated and must be an OBJ; an absent global throws ERR 2, an absent property is undefined)");
        TestKit.leaves("o = {}; r = o.a += 4", TestKit.num(4));
        TestKit.leaves("o = {}; r = o.a -= 4", TestKit.num(-4));
        TestKit.leaves("o = {}; r = o.a *= 4", TestKit.num(0));
        TestKit.leaves("o = {}; r = o.a &= 4", TestKit.num(0));
        TestKit.leaves("o = {a : 6}; o.a += o.a = 10; r = o.a", TestKit.num(16));
        TestKit.leaves("i = 0; o = {}; function g() { i += 1; return o } g().a += 2; r = i * 10 + o.a", TestKit.num(12));
        TestKit.throwsValue("o.a += 1", TestKit.err(2));
        BridgedScriptEngine engine = thrown(FULL + "o.e += r = 5", 3);
        TestKit.due("e was evaluated", TestKit.global(engine, 'r'), TestKit.num(5));
        TestKit.due("four are left", TestKit.global(engine, 'o'), TestKit.obj(4));
        TestKit.throwsValue("o = {a : {}}; o.a += 1", TestKit.err(1));
    }

    private static void objectsFirst() {
        TestKit.sentence("{ p : e, .. } makes a new object first, then evaluates each e and assigns it to its property.");
        String fill = "i = 0; while (i < 48) { i += 1; n = {} } ";
        BridgedScriptEngine engine = thrown(fill + "o = {p : r = 1}", 3);
        TestKit.due("no e without room", TestKit.global(engine, 'r'), TestKit.ABSENT);
        BridgedScriptEngine last = thrown(fill.replace("48", "47") + "o = {p : r = 1, q : {}}", 3);
        TestKit.due("the first e was evaluated", TestKit.global(last, 'r'), TestKit.num(1));
        TestKit.due("o is not assigned", TestKit.global(last, 'o'), TestKit.ABSENT);
        TestKit.leaves(fill.replace("48", "46") + "r = {p : {}}", TestKit.obj(1));
        BridgedScriptEngine five = thrown("o = {a : 1, b : 2, c : 3, d : 4, e : r = 5, f : s = 6}", 3);
        TestKit.due("the fifth e was evaluated", TestKit.global(five, 'r'), TestKit.num(5));
        TestKit.due("the sixth was not", TestKit.global(five, 's'), TestKit.ABSENT);
        TestKit.leaves("o = {a : 1}; o = {b : o.a, c : o}; r = o.c", TestKit.obj(1));
    }

    private static void newFunctions() {
        TestKit.sentence("function (..) .. makes a new function object (without properties).");
        TestKit.leaves("i = 0; while (i < 2) { i += 1; b = a; a = function () { }; if (i == 1) a.p = 1 } var a; var b; r = b", TestKit.fun(1));
        TestKit.leaves("i = 0; while (i < 2) { i += 1; b = a; a = function () { }; if (i == 1) a.p = 1 } var a; var b; r = a", TestKit.fun(0));
        TestKit.leaves("function f() { return function () { } } r = f() === f()", TestKit.bool(false));
        TestKit.leaves("r = function () { }", TestKit.fun(0));
    }

    private static void room() {
        TestKit.sentence("ROOM: since the last run began at most 48 objects (functions among them) are made; making one more throws ERR 3.");
        TestKit.leaves("r = 0; while (r < 48) { r += 1; o = {} }", TestKit.num(48));
        BridgedScriptEngine engine = thrown("r = 0; while (true) { o = {}; r += 1 }", 3);
        TestKit.due("objects", TestKit.global(engine, 'r'), TestKit.num(48));
        BridgedScriptEngine functions = thrown("r = 0; while (true) { o = function () { }; r += 1 }", 3);
        TestKit.due("functions", TestKit.global(functions, 'r'), TestKit.num(48));
        BridgedScriptEngine declared = thrown("function a() { } function b() { } r = 0; while (true) { o = {}; r += 1 }", 3);
        TestKit.due("beside two declared functions", TestKit.global(declared, 'r'), TestKit.num(46));
        BridgedScriptEngine twice = thrown("function a() { } function a() { } r = 0; while (true) { o = {}; r += 1 }", 3);
        TestKit.due("beside a function declared twice", TestKit.global(twice, 'r'), TestKit.num(46));
        BridgedScriptEngine caught = TestKit.ran("r = 0; i = 0; while (i < 50) { i += 1; try { o = {}; r += 1 } catch (e) { } }");
        TestKit.due("a refused one is not made", TestKit.global(caught, 'r'), TestKit.num(48));
        BridgedScriptEngine inside = thrown("function f() { function g() { } function h() { } } r = 0; while (true) { f(); r += 1 }", 3);
        TestKit.due("functions declared in a body", TestKit.global(inside, 'r'), TestKit.num(23));
    }

    private static void roomSinceTheLastRun() {
        TestKit.sentence("since the last run began");
        BridgedScriptEngine engine = TestKit.ran("function f(n) { while (n) { n -= 1; o = {} } }");
        TestKit.due("47 beside f", engine.call(F, 47, 0), TestKit.DONE);
        TestKit.due("no room is left", engine.call(F, 1, 0), TestKit.THROWN);
        TestKit.due("ERR 3", engine.result(), TestKit.err(3));
        TestKit.due("a new run", engine.run(), TestKit.DONE);
        TestKit.due("40", engine.call(F, 40, 0), TestKit.DONE);
        TestKit.due("and 7", engine.call(F, 7, 0), TestKit.DONE);
        TestKit.due("and no more", engine.call(F, 1, 0), TestKit.THROWN);
        TestKit.due("none needed", engine.call(F, 0, 0), TestKit.DONE);
    }

    private static void variables() {
        TestKit.sentence("var x = e evaluates e and assigns it to the NAME x; var x without = does nothing.");
        TestKit.leaves("r = 4; var r", TestKit.num(4));
        TestKit.leaves("var r = 4; var r = 5; var r", TestKit.num(5));
        TestKit.leaves("function f(a) { var a; return a } r = f(3)", TestKit.num(3));
        TestKit.leaves("function f(a) { var a = 6; return a } r = f(3)", TestKit.num(6));
        TestKit.leaves("function r() { } var r", TestKit.fun(0));
        BridgedScriptEngine engine = thrown("a = 1; var a = 1 / 0", 4);
        TestKit.due("a is as before", engine.global(0), TestKit.num(1));
    }
}
