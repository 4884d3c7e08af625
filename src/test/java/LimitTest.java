/** Promise 17 and the LIMIT errors of load: what is counted, over what, and where the error lies. */
public final class LimitTest {
    private static final int SYNTAX = TestKit.SYNTAX;
    private static final int LIMIT = TestKit.LIMIT;

    public static void main(String[] args) {
        parametersAndArguments();
        functions();
        nesting();
        tries();
        whiles();
        ownNames();
        leastPlace();
        nothingIsLoaded();
        TestKit.end();
    }

    private static void parametersAndArguments() {
        TestKit.loads("function a(b, c, d) {}");
        TestKit.refuses("function a(b, c, d, e) {}", LIMIT, 8);
        TestKit.refuses("function a(b, b, b, b) {}", LIMIT, 8);
        TestKit.refuses("function a(b, c, d,", LIMIT, 8);
        TestKit.refuses("function a(b, c, d,) {}", LIMIT, 8);
        TestKit.refuses("a = function (b, c, d, e) {}", LIMIT, 9);
        TestKit.loads("a(1, 2, 3)");
        TestKit.refuses("a(1, 2, 3, 4)", LIMIT, 7);
        TestKit.refuses("a(1, 2, 3,", LIMIT, 7);
        TestKit.refuses("a(1, 2, 3,)", LIMIT, 7);
        TestKit.loads("a(b(1, 2, 3), c(1, 2, 3), d(1, 2, 3))");
        TestKit.refuses("a(1, b(1, 2, 3), 3, 4)", LIMIT, 14);
        TestKit.loads("a(1, 2, {a : 1, b : 2, c : 3, d : 4, e : 5})");
        TestKit.loads("host.a(1, 2, 3)");
        TestKit.refuses("host.a(1, 2, 3, 4)", LIMIT, 9);
        TestKit.refuses("host.a()(1, 2, 3, 4)", LIMIT, 11);
    }

    private static void functions() {
        String six = TestKit.times("function a() {}", 6);
        TestKit.loads(six);
        TestKit.refuses(six + "function a() {}", LIMIT, 36);
        TestKit.refuses(six + "function", LIMIT, 36);
        TestKit.refuses(six + "a = function () {}", LIMIT, 38);
        TestKit.refuses(six + "{ function a() {} }", SYNTAX, 37);
        TestKit.refuses(six + "a function", SYNTAX, 37);
        String nested = "function a() { function b() { } a = function () { } }";
        TestKit.loads(nested + nested);
        TestKit.refuses(nested + nested + "b = function () {}", LIMIT, 40);
        String used = TestKit.times("(function () {});", 6);
        TestKit.loads(used);
        TestKit.refuses(used + "a(1, function () {})", LIMIT, 52);
    }

    private static void nesting() {
        TestKit.loads("function a() { function b() { function c() { } } }");
        TestKit.refuses("function a() { function b() { function c() { function d() { } } } }", LIMIT, 15);
        TestKit.refuses("function a() { function b() { function c() { d = function () { } } } }", LIMIT, 17);
        TestKit.refuses("(function () { (function () { (function () { (function", LIMIT, 16);
        TestKit.loads("function a() { function b() { function c() { } } function d() { function e() { } } }");
        TestKit.loads("(function () { (function () { (function () { }) }) })\nfunction a() { function b() { function c() { } } }");
    }

    private static void tries() {
        String one = "try {} catch (a) {}";
        TestKit.loads(TestKit.times(one, 6));
        TestKit.refuses(TestKit.times(one, 7), LIMIT, 54);
        TestKit.refuses(TestKit.times(one, 6) + "try", LIMIT, 54);
        TestKit.refuses(TestKit.times(one, 6) + "a = try", SYNTAX, 56);
        String spread = "function a() {" + TestKit.times(one, 3) + "}" + TestKit.times(one, 3);
        TestKit.loads(spread);
        TestKit.refuses(spread + "function b() { try", LIMIT, 65);
        TestKit.loads(TestKit.times("try {", 6) + TestKit.times("} catch (a) {}", 6));
        TestKit.refuses(TestKit.times("try {", 7), LIMIT, 12);
        TestKit.refuses(TestKit.times(one, 5) + "try {} catch (a) { try", LIMIT, 53);
    }

    private static void whiles() {
        String one = "while (a) b;";
        TestKit.loads(TestKit.times(one, 8));
        TestKit.refuses(TestKit.times(one, 9), LIMIT, 48);
        TestKit.refuses(TestKit.times(one, 8) + "while", LIMIT, 48);
        TestKit.refuses(TestKit.times(one, 8) + "a while", SYNTAX, 49);
        String spread = "function a() {" + TestKit.times(one, 4) + "}" + TestKit.times(one, 4);
        TestKit.loads(spread);
        TestKit.refuses(spread + "function b() { while", LIMIT, 59);
        TestKit.loads(TestKit.times("while (a)", 8) + ";");
        TestKit.refuses(TestKit.times("while (a)", 9) + ";", LIMIT, 32);
    }

    private static void ownNames() {
        TestKit.loads("var a; var b; var c; var d; var e; var f; var g; var h");
        TestKit.loads("function x(a, b, c) { var d; var e; var f }");
        TestKit.refuses("function x(a, b, c) { var d; var e; var f; var g }", LIMIT, 20);
        TestKit.refuses("function x(a, b, c) { var d; var e; var f; var g = 1 +", LIMIT, 20);
        TestKit.loads("function x(a, b, c) { var d; var e; var f; var a; var d; var f }");
        TestKit.loads("function x(a, a, a) { var b; var c; var d; var e; var f }");
        TestKit.refuses("function x(a, a, a) { var b; var c; var d; var e; var f; var x }", LIMIT, 26);
        String five = "function x(a, b, c) { var d; var e; ";
        TestKit.loads(five + "try {} catch (f) {} }");
        TestKit.refuses(five + "var f; try {} catch (g) {} }", LIMIT, 24);
        TestKit.loads(five + "var f; try {} catch (a) {} }");
        TestKit.loads(five + "function f() {} }");
        TestKit.refuses(five + "var f; function g() {} }", LIMIT, 20);
        TestKit.loads(five + "var f; function a(g, h, i) { var j; var k; var l } }");
        TestKit.refuses(five + "var f; a = function (g, h, i) { var j; var k; var l; var m } }", LIMIT, 40);
        TestKit.loads(five + "var f; g = h + i.j; k({l : 1, m : 2}) }");
        TestKit.refuses(five + "if (a) { while (b) { var f; { var g } } } }", LIMIT, 31);
        TestKit.refuses("function x() { function a() {} var b; var c; var d; var e; var f; var g }", LIMIT, 27);
        TestKit.loads("function x(a, b, c) { var d; var e; var f } function y(g, h, i) { var j; var k; var l }");
        TestKit.refuses("function x(a, b, c) { var d; y = function (g) { }; var e; var f; var g }", LIMIT, 29);
    }

    private static void leastPlace() {
        TestKit.refuses("a(1, 2, 3, 4) )", LIMIT, 7);
        TestKit.refuses(") a(1, 2, 3, 4)", SYNTAX, 0);
        TestKit.refuses(TestKit.times("function a() {}", 6) + "function 1", LIMIT, 36);
        TestKit.refuses(TestKit.times("function a() {}", 5) + "function 1 function", SYNTAX, 31);
        TestKit.refuses("function x(a, b, c, d) { break }", LIMIT, 8);
        TestKit.refuses("function x(a, b, c) { break; a(1, 2, 3, 4) }", SYNTAX, 10);
    }

    private static void nothingIsLoaded() {
        BridgedScriptEngine engine = TestKit.fed("a = 1; b(1, 2, 3, 4)");
        TestKit.due("load", engine.load(), LIMIT);
        TestKit.due("run", engine.run(), TestKit.NOT_LOADED);
        TestKit.due("a", TestKit.global(engine, 'a'), TestKit.ABSENT);
        TestKit.due("load again", engine.load(), LIMIT);
        TestKit.due("errorAt", engine.errorAt(), 11);
    }
}
