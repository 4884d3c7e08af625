import java.util.List;

/** The edges of LOAD ERRORS and OWN NAMES and of the promises 5, 6 and 17, a sentence at a time. */
public final class EdgesOfLoadTest {
    private static final int OK = TestKit.OK;
    private static final int SYNTAX = TestKit.SYNTAX;
    private static final int LIMIT = TestKit.LIMIT;
    private static final int F = TestKit.name('f');

    /** Whole programs with all that the grammar has; each of their beginnings lacks at most an end. */
    private static final String[] WHOLE = {
        "function f(a, b, c) { var d = a; function g() { return } return g ? d : c }",
        "try { throw 1 } catch (e) { e += 1 } if (a) b; else { c } while (a) { break; continue }",
        "a.b = c = {p : 1, q : function (x) { return -x }}.q(4, !5, ~6).d\nhost.m(a, b, c)(d)",
        "x = a || b && c | d ^ e & f == g != h === i !== j < k > l <= m >= n << o >> p >>> q + r - s * t / u % v;;",
        "var a\n= (b)\nvar c\nif (a) while (b) try { } catch (c) { } else throw (d)\nfunction f() { return\na }"
    };

    public static void main(String[] args) {
        theEndDoesNotFit();
        theFirstTokenThatDoesNotFit();
        fourths();
        seventhFunction();
        fourDeep();
        seventhTry();
        ninthWhile();
        seventhOwnName();
        limitsAtTokensThatFit();
        theLeastPlace();
        ownNames();
        ownNamesOfTheProgram();
        whateverTheAnswer();
        loadedOrNot();
        placesOfErrors();
        overTheWholeSource();
        TestKit.end();
    }

    private static void theEndDoesNotFit() {
        TestKit.sentence("or the number of tokens if the end of the source is what does not fit.");
        for (String source : WHOLE) {
            List<int[]> tokens = TestKit.tokensOf(source);
            TestKit.loads(source);
            int count = 0;
            BridgedScriptEngine engine = new BridgedScriptEngine();
            for (int[] token : tokens) {
                int answer = engine.load();
                TestKit.due(count + " tokens of " + source, answer != LIMIT, true);
                TestKit.due("errorAt of " + count + " tokens of " + source, engine.errorAt(), answer == OK ? -1 : count);
                engine.token(token[0], token[1]);
                count += token[0] == 55 ? 0 : 1;
            }
        }
        TestKit.refuses("(", SYNTAX, 1);
        TestKit.refuses(TestKit.times("(", 160), SYNTAX, 160);
        TestKit.refuses(TestKit.times("{", 160), SYNTAX, 160);
        TestKit.refuses(TestKit.times("-", 160), SYNTAX, 160);
        TestKit.refuses(TestKit.times("a = ", 80), SYNTAX, 160);
    }

    private static void theFirstTokenThatDoesNotFit() {
        TestKit.sentence("the place is the number (0 first) of the first token such that no program begins with the tokens up to it (with their line ends)");
        TestKit.refuses(")", SYNTAX, 0);
        TestKit.refuses("a )", SYNTAX, 1);
        TestKit.refuses("a ) ) )", SYNTAX, 1);
        TestKit.refuses("a b", SYNTAX, 1);
        TestKit.refuses("a\nb c", SYNTAX, 2);
        TestKit.refuses("throw\na", SYNTAX, 1);
        TestKit.refuses(TestKit.times(";", 159) + ")", SYNTAX, 159);
        for (String source : WHOLE) {
            int count = TestKit.tokensOf(source.replace("\n", " ")).size();
            TestKit.refuses(source + "\n, a", SYNTAX, count);
            TestKit.refuses(source + "\n} a", SYNTAX, count);
            TestKit.refuses(source + "\ncatch a", SYNTAX, count);
        }
    }

    private static void fourths() {
        TestKit.sentence("a fourth parameter or argument (at the comma before it)");
        TestKit.loads("function f(a, b, c) { }");
        TestKit.refuses("function f(a, b, c, d) { }", LIMIT, 8);
        TestKit.refuses("function f(a, a, a, a) { }", LIMIT, 8);
        TestKit.refuses("x = function (a, b, c, d) { }", LIMIT, 9);
        TestKit.loads("f(1, 2, 3)");
        TestKit.refuses("f(1, 2, 3, 4)", LIMIT, 7);
        TestKit.refuses("f(1, 2 + 3 * 4, (5), 6)", LIMIT, 13);
        TestKit.loads("host.f(1, 2, 3)");
        TestKit.refuses("host.f(1, 2, 3, 4)", LIMIT, 9);
        TestKit.loads("f({a : 1, b : 2, c : 3, d : 4})");
    }

    private static void seventhFunction() {
        TestKit.sentence("a seventh function of the whole source (at its token function)");
        String five = TestKit.times("function f() { }", 5);
        TestKit.loads(five + "function f() { }");
        TestKit.refuses(five + "function f() { } function f() { }", LIMIT, 36);
        TestKit.loads(five + "a = function () { }");
        TestKit.refuses(five + "a = function () { }; a = function () { }", LIMIT, 40);
        TestKit.refuses(five + "a = function () { function g() { } }", LIMIT, 36);
        String six = "function a() { return 1 } function b() { return 2 } function c() { return 3 } function d() { return 4 } function e() { return 5 } ";
        TestKit.leaves(six + "function f() { return 6 } r = ((((a() * 10 + b()) * 10 + c()) * 10 + d()) * 10 + e()) * 10 + f()", TestKit.num(123456));
        TestKit.leaves(six + "f = function () { return 6 }; r = ((((a() * 10 + b()) * 10 + c()) * 10 + d()) * 10 + e()) * 10 + f()", TestKit.num(123456));
        String nested = "function f() { function g() { function h() { } } }";
        TestKit.loads(nested + nested);
        TestKit.refuses(nested + nested + "function k() { }", LIMIT, 36);
        TestKit.refuses("function f() { a(function () { }, function () { }) } b = {c : function () { }, d : function () { }, e : function () { }, g : function () { }}",
            LIMIT, 49);
    }

    private static void fourDeep() {
        TestKit.sentence("a function inside a function inside a function inside a function (four deep; at its token function)");
        TestKit.loads("function a() { function b() { function c() { } } }");
        TestKit.refuses("function a() { function b() { function c() { function d() { } } } }", LIMIT, 15);
        TestKit.refuses("function a() { b = function () { function c() { return function () { } } } }", LIMIT, 17);
        TestKit.refuses("(function () { (function () { (function () { (function () { }) }) }) })", LIMIT, 16);
        TestKit.loads("function a() { function b() { function c() { } function d() { } } function e() { function f() { } } }");
        TestKit.loads("function a() { function b() { function c() { } } } function d() { function e() { function f() { } } }");
    }

    private static void seventhTry() {
        TestKit.sentence("a seventh try (at it)");
        String one = "try { } catch (a) { }";
        TestKit.loads(TestKit.times(one, 6));
        TestKit.refuses(TestKit.times(one, 7), LIMIT, 54);
        TestKit.loads(TestKit.times("try {", 6) + TestKit.times("} catch (a) { }", 6));
        TestKit.refuses(TestKit.times("try {", 7) + TestKit.times("} catch (a) { }", 7), LIMIT, 12);
        TestKit.loads(TestKit.times("try { } catch (a) { ", 6) + TestKit.times("}", 6));
        TestKit.refuses(TestKit.times("try { } catch (a) { ", 7) + TestKit.times("}", 7), LIMIT, 48);
    }

    private static void ninthWhile() {
        TestKit.sentence("a ninth while (at it)");
        TestKit.loads(TestKit.times("while (a) ;", 8));
        TestKit.refuses(TestKit.times("while (a) ;", 9), LIMIT, 40);
        TestKit.loads(TestKit.times("while (a)", 8) + ";");
        TestKit.refuses(TestKit.times("while (a)", 9) + ";", LIMIT, 32);
    }

    private static void seventhOwnName() {
        TestKit.sentence("a seventh distinct own name of a function (at the NAME token that declares it)");
        String five = "function x(a, b, c) { var d; var e; ";
        String six = five + "var f; ";
        TestKit.loads(five + "var f }");
        TestKit.refuses(six + "var g }", LIMIT, 20);
        TestKit.loads(five + "try { } catch (f) { } }");
        TestKit.refuses(six + "try { } catch (g) { } }", LIMIT, 24);
        TestKit.loads(five + "function f() { } }");
        TestKit.refuses(six + "function g() { } }", LIMIT, 20);
        TestKit.loads(six + "var a; var b; var f; try { } catch (c) { } function d() { } }");
        TestKit.loads("function x(a, a, a) { var b; var c; var d; var e; var f }");
        TestKit.refuses("function x(a, a, a) { var b; var c; var d; var e; var f; var g }", LIMIT, 26);
        TestKit.refuses("y = function (a, b, c) { var d; var e; var f; var g }", LIMIT, 21);
    }

    private static void limitsAtTokensThatFit() {
        TestKit.sentence("LIMIT errors lie at a token that fits by the grammar");
        String functions = TestKit.times("function f() { }", 6);
        TestKit.refuses(functions + "{ function g() { } }", SYNTAX, 37);
        TestKit.refuses(functions + "a function", SYNTAX, 37);
        TestKit.refuses(functions + "a.function", SYNTAX, 38);
        String tries = TestKit.times("try { } catch (a) { }", 6);
        TestKit.refuses(tries + "a = try", SYNTAX, 56);
        TestKit.refuses(tries + "a try", SYNTAX, 55);
        String whiles = TestKit.times("while (a) ;", 8);
        TestKit.refuses(whiles + "a = while", SYNTAX, 42);
        TestKit.refuses(whiles + "a while", SYNTAX, 41);
        TestKit.refuses("function f(a, b, c;", SYNTAX, 8);
        TestKit.refuses("f(1, 2, 3; 4)", SYNTAX, 7);
        TestKit.refuses("function x(a, b, c) { var d; var e; var f; var 1 }", SYNTAX, 20);
        TestKit.refuses("function x(a, b, c) { var d; var e; var f; function (", SYNTAX, 20);
        TestKit.refuses("function x(a, b, c) { var d; var e; var f; a var g }", SYNTAX, 20);
        TestKit.refuses("function a() { function b() { function c() { { function", SYNTAX, 16);
    }

    private static void theLeastPlace() {
        TestKit.sentence("Of several errors the one at the least place counts.");
        TestKit.refuses("f(1, 2, 3, 4) )", LIMIT, 7);
        TestKit.refuses("f(1, 2, 3, )", LIMIT, 7);
        TestKit.refuses("f(1, 2, 3 4, 5, 6)", SYNTAX, 7);
        TestKit.refuses(") f(1, 2, 3, 4)", SYNTAX, 0);
        TestKit.refuses("f(1, 2, 3, 4); function g(a, b, c, d) { }", LIMIT, 7);
        TestKit.refuses(TestKit.times("function f() { }", 6) + "function 1", LIMIT, 36);
        TestKit.refuses(TestKit.times("function f() { }", 5) + "function 1 { } function", SYNTAX, 31);
        TestKit.refuses(TestKit.times("while (a) ;", 8) + "while 1", LIMIT, 40);
        TestKit.refuses(TestKit.times("try { } catch (a) { }", 6) + "try 1", LIMIT, 54);
        TestKit.refuses("function x(a, b, c) { var d; var e; var f; var g +", LIMIT, 20);
        TestKit.refuses("function x(a, b, c) { var d; var e; function f(g, h, i, j) { } var k; var l }", LIMIT, 24);
    }

    private static void ownNames() {
        TestKit.sentence("OWN NAMES of a function: its parameters, and the NAMEs in var, in catch ( NAME ) and in function declarations that "
            + "stand in its body but not inside an inner function.");
        TestKit.leaves("a = 1; function f(a) { a = 2 } f(); r = a", TestKit.num(1));
        TestKit.leaves("a = 1; function f() { a = 2; if (0) { while (0) { var a } } } f(); r = a", TestKit.num(1));
        TestKit.leaves("a = 1; function f() { a = 2; try { } catch (a) { } } f(); r = a", TestKit.num(1));
        TestKit.leaves("a = 1; function f() { a = 2; function a() { } } f(); r = a", TestKit.num(1));
        TestKit.leaves("a = 1; function f() { a = 2; function g(a) { var a } } f(); r = a", TestKit.num(2));
        TestKit.leaves("a = 1; function f() { a = 2; g = function () { var a; try { } catch (a) { } function a() { } } } f(); r = a", TestKit.num(2));
        TestKit.leaves("a = 1; function f() { a = 2; o = {a : 3}; o.a = 4 } f(); r = a", TestKit.num(2));
        TestKit.loads("function x(a, b, c) { var d; var e; var f; y = function (g, h, i) { var j; var k; var l } }");
        TestKit.loads("function x(a, b, c) { var d; var e; var f; g = h; i.j = {k : 1, l : 2}; m() }");
        TestKit.loads("function x(a, b, c) { var d; var e; function f(g, h, i) { var j; var k; var l } }");
    }

    private static void ownNamesOfTheProgram() {
        TestKit.sentence("its own names are the globals that it declares; their number has no limit but 26.");
        StringBuilder source = new StringBuilder();
        for (char letter = 'a'; letter <= 'z'; letter++) {
            source.append("var ").append(letter).append(";");
        }
        BridgedScriptEngine engine = TestKit.ran(source.toString());
        for (int g = 0; g < 26; g++) {
            TestKit.due("global " + g, engine.global(g), TestKit.UNDEFINED);
        }
        TestKit.loads("function a() { } function b() { } var c; var d; try { } catch (e) { } try { } catch (f) { } var g; var h; var i");
        BridgedScriptEngine others = TestKit.ran("try { } catch (a) { } function b(c) { var d } if (0) { var e; f = 1 } g = function (h) { var i }");
        long[] due = {TestKit.UNDEFINED, TestKit.fun(0), TestKit.ABSENT, TestKit.ABSENT, TestKit.UNDEFINED, TestKit.ABSENT, TestKit.fun(0),
            TestKit.ABSENT, TestKit.ABSENT};
        for (int g = 0; g < due.length; g++) {
            TestKit.due("global " + g, others.global(g), due[g]);
        }
    }

    private static void whateverTheAnswer() {
        TestKit.sentence("Whatever the answer: afterwards there are no globals, the trace is empty and its count 0, the host memory 0, the result UNDEFINED.");
        String[] more = {"", " )", "\nf(1, 2, 3, 4)"};
        for (int answer = 0; answer < more.length; answer++) {
            BridgedScriptEngine engine = new BridgedScriptEngine();
            engine.overload(12, 5, 5, 2);
            TestKit.feed(engine, "function f() { return 7 } o = {p : 1}; q = o; r = host.m(1, 2)");
            TestKit.due("load", engine.load(), OK);
            TestKit.due("run", engine.run(), TestKit.DONE);
            TestKit.due("call", engine.call(F, 0, 0), TestKit.DONE);
            long memory = TestKit.global(engine, 'r');
            TestKit.feed(engine, more[answer]);
            TestKit.due("load with " + more[answer], engine.load(), answer);
            for (int g = 0; g < 26; g++) {
                TestKit.due("global " + g, engine.global(g), TestKit.ABSENT);
            }
            TestKit.due("prop", engine.prop(TestKit.name('o'), TestKit.name('p')), TestKit.ABSENT);
            TestKit.due("propName", engine.propName(TestKit.name('o'), 0), -1);
            TestKit.due("same", engine.same(TestKit.name('o'), TestKit.name('q')), false);
            TestKit.due("traceCount", engine.traceCount(), 0);
            TestKit.due("traceMethod", engine.traceMethod(0), -1);
            TestKit.due("traceArg 0", engine.traceArg(0, 0), 0);
            TestKit.due("traceArg 1", engine.traceArg(0, 1), 0);
            TestKit.due("result", engine.result(), TestKit.UNDEFINED);
            engine.wipe();
            TestKit.feed(engine, "r = host.m(1, 2)");
            TestKit.due("load anew", engine.load(), OK);
            TestKit.due("run anew", engine.run(), TestKit.DONE);
            TestKit.due("the host memory", TestKit.global(engine, 'r'), memory);
        }
    }

    private static void loadedOrNot() {
        TestKit.sentence("OK: the program is loaded (not yet run). SYNTAX or LIMIT: nothing is loaded.");
        BridgedScriptEngine engine = TestKit.fed("a = 1; function f() { }");
        TestKit.due("load", engine.load(), OK);
        TestKit.due("not yet run", TestKit.global(engine, 'a'), TestKit.ABSENT);
        TestKit.due("no function yet", engine.call(F, 0, 0), TestKit.NO_FUNCTION);
        TestKit.due("run", engine.run(), TestKit.DONE);
        TestKit.due("load again", engine.load(), OK);
        TestKit.due("not yet run again", TestKit.global(engine, 'a'), TestKit.ABSENT);
        TestKit.due("run again", engine.run(), TestKit.DONE);
        engine.wipe();
        TestKit.feed(engine, "function f() { function g() { } }");
        TestKit.due("load", engine.load(), OK);
        engine.wipe();
        TestKit.feed(engine, "function f(a) { return a }");
        TestKit.due("load", engine.load(), OK);
        TestKit.due("run", engine.run(), TestKit.DONE);
        for (int i = 0; i < 70; i++) {
            TestKit.due("the new f has no function inside", engine.call(F, i, 0), TestKit.DONE);
            TestKit.due("its answer", engine.result(), TestKit.num(i));
        }
        String[] wrong = {"function f() { } )", "function f() { } a(1, 2, 3, 4)"};
        for (int i = 0; i < wrong.length; i++) {
            BridgedScriptEngine refused = TestKit.fed(wrong[i]);
            TestKit.due("load of " + wrong[i], refused.load(), i == 0 ? SYNTAX : LIMIT);
            TestKit.due("run", refused.run(), TestKit.NOT_LOADED);
            TestKit.due("call", refused.call(F, 0, 0), TestKit.NOT_LOADED);
            TestKit.due("load again", refused.load(), i == 0 ? SYNTAX : LIMIT);
            TestKit.due("run again", refused.run(), TestKit.NOT_LOADED);
        }
    }

    private static void placesOfErrors() {
        TestKit.sentence("The place of the error of the last load; -1 if that answered OK or there was none yet.");
        BridgedScriptEngine engine = new BridgedScriptEngine();
        TestKit.due("none yet", engine.errorAt(), -1);
        TestKit.feed(engine, ")");
        TestKit.due("still none", engine.errorAt(), -1);
        TestKit.due("load", engine.load(), SYNTAX);
        TestKit.due("place 0", engine.errorAt(), 0);
        engine.wipe();
        TestKit.due("a wipe is no load", engine.errorAt(), 0);
        TestKit.feed(engine, "a(1, 2, 3, 4)");
        TestKit.due("a token is no load", engine.errorAt(), 0);
        TestKit.due("load", engine.load(), LIMIT);
        TestKit.due("place 7", engine.errorAt(), 7);
        TestKit.due("run", engine.run(), TestKit.NOT_LOADED);
        TestKit.due("overload", engine.overload(0, 0, 0, 0), 0);
        TestKit.due("asked again", engine.errorAt(), 7);
        engine.wipe();
        TestKit.feed(engine, "throw 1");
        TestKit.due("load", engine.load(), OK);
        TestKit.due("no error", engine.errorAt(), -1);
        TestKit.due("run", engine.run(), TestKit.THROWN);
        TestKit.due("a run is no load", engine.errorAt(), -1);
        engine.wipe();
        TestKit.feed(engine, TestKit.times("(", 160));
        TestKit.due("load", engine.load(), SYNTAX);
        TestKit.due("the greatest place", engine.errorAt(), 160);
    }

    private static void overTheWholeSource() {
        TestKit.sentence("load: a seventh try and a ninth while are counted over the whole source, like the seventh function.");
        String one = "try { } catch (a) { }";
        String spread = "function f() { " + TestKit.times(one, 2) + "function g() { " + TestKit.times(one, 2) + "} }" + one;
        int count = TestKit.tokensOf(spread).size();
        TestKit.loads(spread + one);
        TestKit.refuses(spread + one + one, LIMIT, count + 9);
        TestKit.refuses(spread + one + "function h() { try", LIMIT, count + 14);
        TestKit.refuses(spread + one + "x = function () { try", LIMIT, count + 15);
        String loop = "while (a) ;";
        String loops = "function f() { " + TestKit.times(loop, 3) + "function g() { " + TestKit.times(loop, 3) + "} }" + loop;
        int before = TestKit.tokensOf(loops).size();
        TestKit.loads(loops + loop);
        TestKit.refuses(loops + loop + loop, LIMIT, before + 5);
        TestKit.refuses(loops + loop + "function h() { while", LIMIT, before + 10);
        TestKit.refuses(loops + loop + "x = function () { while", LIMIT, before + 11);
        String mixed = TestKit.times(one, 6) + TestKit.times(loop, 8);
        TestKit.loads(mixed + "function f() { }");
        TestKit.refuses(mixed + "function f() { while", LIMIT, 99);
        TestKit.refuses(mixed + "function f() { try", LIMIT, 99);
    }
}
