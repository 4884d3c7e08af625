/** Promises 5 and 6, the grammar: what load takes, and where it sees that a source does not fit. */
public final class LoadTest {
    private static final int SYNTAX = TestKit.SYNTAX;

    public static void main(String[] args) {
        takenSources();
        programs();
        statements();
        expressions();
        targets();
        ends();
        returnsAndThrows();
        loopsAndFunctions();
        stateAfterLoad();
        TestKit.end();
    }

    private static void takenSources() {
        String[] sources = {
            "", ";", ";;", "{}", "{{};{}}", "a", "a;", "a;;", "var a", "var a;", "var a = 1", "var a\n=\n1",
            "if (a) b", "if (a) b; else c", "if (a) b\nelse c", "if (a) {} else {}", "if (a) ; else ;",
            "if (a) if (b) c; else d; else e", "if (a) while (b) if (c) d; else e; else f",
            "if (a) {} else if (b) {} else c", "while (a) b", "while (a) { break; continue }", "while (a) break",
            "while (a) if (b) break; else continue", "throw a", "throw a;", "try {} catch (a) {}",
            "try { try {} catch (a) {} } catch (b) { c }", "function a() {}", "function a(b) {} function c(d, e, f) {}",
            "function a() { function b() {} return b }", "function a() { return }", "function a() { return; }",
            "a = function () {}", "a = function (b, b, b) { return b }", "(function () {})", "(function () {})()",
            "a = {}", "a = {b : 1}", "a = {b : 1, b : {c : 2}, d : 3, e : 4, f : 5}", "({}).a = 1",
            "a = b = c", "a += b -= c *= d &= e", "a.b = 1", "a.b.c += 1", "a().b = 1", "(a).b = 1", "{}\n-a",
            "host.a().b = 1", "host.a(1, 2, 3)", "host.a()()", "a()()(b)(c, d, e).f", "1.a(2)", "true.a", "null()",
            "a ? b : c", "a ? b = 1 : c = 2", "a ? b ? c : d : e ? f : g", "a = b ? c : d",
            "a || b && c | d ^ e & f == g != h === i !== j < k > l <= m >= n << o >> p >>> q + r - s * t / u % v",
            "-a", "!a", "~a", "- - !~a", "a - -b", "a\n+\nb", "a\n(\nb\n)", "a\n.\nb\n=\n1", "a\n?\nb\n:\nc",
            "function\na\n(\nb\n,\nc\n)\n{\n}", "if\n(\na\n)\nb\nelse\nc", "a = undefined"
        };
        for (String source : sources) {
            TestKit.loads(source);
        }
    }

    private static void programs() {
        TestKit.refuses("}", SYNTAX, 0);
        TestKit.refuses("a }", SYNTAX, 1);
        TestKit.refuses("a\n}", SYNTAX, 1);
        TestKit.refuses("{", SYNTAX, 1);
        TestKit.refuses("{ a", SYNTAX, 2);
        TestKit.refuses("{ function a() {} }", SYNTAX, 1);
        TestKit.refuses("if (a) function b() {}", SYNTAX, 4);
        TestKit.refuses("if (a) b; else function c() {}", SYNTAX, 7);
        TestKit.refuses("while (a) function b() {}", SYNTAX, 4);
        TestKit.refuses("try { function a() {} } catch (b) {}", SYNTAX, 2);
        TestKit.refuses("try {} catch (b) { function a() {} }", SYNTAX, 8);
        TestKit.refuses("function a() { { function b() {} } }", SYNTAX, 6);
        TestKit.refuses("function", SYNTAX, 1);
        TestKit.refuses("function () {}", SYNTAX, 1);
        TestKit.refuses("function a", SYNTAX, 2);
        TestKit.refuses("function a {}", SYNTAX, 2);
        TestKit.refuses("function a(", SYNTAX, 3);
        TestKit.refuses("function a(,", SYNTAX, 3);
        TestKit.refuses("function a(1) {}", SYNTAX, 3);
        TestKit.refuses("function a(b", SYNTAX, 4);
        TestKit.refuses("function a(b c) {}", SYNTAX, 4);
        TestKit.refuses("function a(b,) {}", SYNTAX, 5);
        TestKit.refuses("function a() b", SYNTAX, 4);
        TestKit.refuses("function a();", SYNTAX, 4);
        TestKit.refuses("function a() {", SYNTAX, 5);
        TestKit.refuses("function a() { b", SYNTAX, 6);
        TestKit.refuses("a = function b() {}", SYNTAX, 3);
        TestKit.refuses("function a() {} ()", SYNTAX, 7);
        TestKit.refuses("function a() {} = 1", SYNTAX, 6);
    }

    private static void statements() {
        int[] noBeginning = {3, 5, 8, 9, 10, 11, 12, 13, 14, 15, 16, 17, 18, 19, 20, 21, 22, 23, 24, 25, 26, 27, 28, 29,
            30, 31, 32, 34, 35, 36, 43, 49};
        for (int kind : noBeginning) {
            TestKit.refuses("a; " + TestKit.TEXTS[kind], SYNTAX, 2);
            TestKit.refuses("{ " + TestKit.TEXTS[kind], SYNTAX, 1);
        }
        TestKit.refuses("else", SYNTAX, 0);
        TestKit.refuses("catch", SYNTAX, 0);
        TestKit.refuses("var", SYNTAX, 1);
        TestKit.refuses("var 1", SYNTAX, 1);
        TestKit.refuses("var a.b", SYNTAX, 2);
        TestKit.refuses("var a += 1", SYNTAX, 2);
        TestKit.refuses("var a\n+= 1", SYNTAX, 2);
        TestKit.refuses("var a, b", SYNTAX, 2);
        TestKit.refuses("var a =", SYNTAX, 3);
        TestKit.refuses("var a = 1, b", SYNTAX, 4);
        TestKit.refuses("if a", SYNTAX, 1);
        TestKit.refuses("if ()", SYNTAX, 2);
        TestKit.refuses("if (a, b)", SYNTAX, 3);
        TestKit.refuses("if (a", SYNTAX, 3);
        TestKit.refuses("if (a)", SYNTAX, 4);
        TestKit.refuses("if (a) }", SYNTAX, 4);
        TestKit.refuses("if (a) else", SYNTAX, 4);
        TestKit.refuses("if (a) b else c", SYNTAX, 5);
        TestKit.refuses("if (a) b;; else c", SYNTAX, 7);
        TestKit.refuses("if (a) {}; else c", SYNTAX, 7);
        TestKit.refuses("if (a) b; else", SYNTAX, 7);
        TestKit.refuses("if (a) b; else c; else d", SYNTAX, 9);
        TestKit.refuses("if (a) { b } c else d", SYNTAX, 8);
        TestKit.refuses("while", SYNTAX, 1);
        TestKit.refuses("while {", SYNTAX, 1);
        TestKit.refuses("while ()", SYNTAX, 2);
        TestKit.refuses("while (a)", SYNTAX, 4);
        TestKit.refuses("while (a) b; else c", SYNTAX, 6);
        TestKit.refuses("try a", SYNTAX, 1);
        TestKit.refuses("try {", SYNTAX, 2);
        TestKit.refuses("try {}", SYNTAX, 3);
        TestKit.refuses("try {} a", SYNTAX, 3);
        TestKit.refuses("try {} catch {}", SYNTAX, 4);
        TestKit.refuses("try {} catch () {}", SYNTAX, 5);
        TestKit.refuses("try {} catch (1) {}", SYNTAX, 5);
        TestKit.refuses("try {} catch (a, b) {}", SYNTAX, 6);
        TestKit.refuses("try {} catch (a.b) {}", SYNTAX, 6);
        TestKit.refuses("try {} catch (a) b", SYNTAX, 7);
        TestKit.refuses("try {} catch (a) {", SYNTAX, 8);
        TestKit.refuses("try {} catch (a) {} catch (b) {}", SYNTAX, 9);
    }

    private static void expressions() {
        int[] noOperand = {2, 3, 5, 7, 8, 9, 10, 11, 12, 13, 14, 15, 16, 17, 18, 19, 20, 21, 22, 23, 24, 25, 26, 27, 28,
            29, 30, 31, 32, 34, 35, 36, 39, 41, 42, 43, 44, 45, 46, 47, 48, 49};
        for (int kind : noOperand) {
            TestKit.refuses("a + " + TestKit.TEXTS[kind], SYNTAX, 2);
            TestKit.refuses("a = " + TestKit.TEXTS[kind], SYNTAX, 2);
            TestKit.refuses("- " + TestKit.TEXTS[kind], SYNTAX, 1);
            TestKit.refuses("( " + TestKit.TEXTS[kind], SYNTAX, 1);
        }
        TestKit.refuses("a !", SYNTAX, 1);
        TestKit.refuses("a ~ b", SYNTAX, 1);
        TestKit.refuses("a.", SYNTAX, 2);
        TestKit.refuses("a.1", SYNTAX, 2);
        TestKit.refuses("a.host", SYNTAX, 2);
        TestKit.refuses("a.b c", SYNTAX, 3);
        TestKit.refuses("a(", SYNTAX, 2);
        TestKit.refuses("a(,", SYNTAX, 2);
        TestKit.refuses("a(b,)", SYNTAX, 4);
        TestKit.refuses("a(b c)", SYNTAX, 3);
        TestKit.refuses("a(b", SYNTAX, 3);
        TestKit.refuses("(a", SYNTAX, 2);
        TestKit.refuses("(a, b)", SYNTAX, 2);
        TestKit.refuses("()", SYNTAX, 1);
        TestKit.refuses("(a))", SYNTAX, 3);
        TestKit.refuses("a ? b", SYNTAX, 3);
        TestKit.refuses("a ? : b", SYNTAX, 2);
        TestKit.refuses("a ? b : ", SYNTAX, 4);
        TestKit.refuses("a ? b ; c", SYNTAX, 3);
        TestKit.refuses("a ? b : c : d", SYNTAX, 5);
        TestKit.refuses("a : b", SYNTAX, 1);
        TestKit.refuses("a = {", SYNTAX, 3);
        TestKit.refuses("a = {1 : 2}", SYNTAX, 3);
        TestKit.refuses("a = {b}", SYNTAX, 4);
        TestKit.refuses("a = {b = 1}", SYNTAX, 4);
        TestKit.refuses("a = {b : }", SYNTAX, 5);
        TestKit.refuses("a = {b : 1 c : 2}", SYNTAX, 6);
        TestKit.refuses("a = {b : 1,}", SYNTAX, 7);
        TestKit.refuses("a = {, b : 1}", SYNTAX, 3);
        TestKit.refuses("a = {b : 1", SYNTAX, 6);
        TestKit.refuses("{b : 1}", SYNTAX, 2);
        TestKit.refuses("host", SYNTAX, 1);
        TestKit.refuses("host()", SYNTAX, 1);
        TestKit.refuses("host = 1", SYNTAX, 1);
        TestKit.refuses("host.", SYNTAX, 2);
        TestKit.refuses("host.1", SYNTAX, 2);
        TestKit.refuses("host.a", SYNTAX, 3);
        TestKit.refuses("host.a = 1", SYNTAX, 3);
        TestKit.refuses("host.a.b()", SYNTAX, 3);
        TestKit.refuses("host.a(", SYNTAX, 4);
        TestKit.refuses("host.a(1", SYNTAX, 5);
        TestKit.refuses("host.a(1,)", SYNTAX, 6);
    }

    private static void targets() {
        for (int kind = 11; kind <= 15; kind++) {
            String sign = " " + TestKit.TEXTS[kind] + " ";
            TestKit.loads("a" + sign + "1");
            TestKit.loads("a.b" + sign + "1");
            TestKit.loads("(a.b).c" + sign + "1");
            TestKit.loads("a ? b : c" + sign + "1");
            TestKit.loads("a ? b" + sign + "1 : c");
            TestKit.loads("(a" + sign + "1) + 1");
            TestKit.loads("a(b" + sign + "1, c" + sign + "2)");
            TestKit.loads("a" + sign + "b" + sign + "c.d" + sign + "1");
            TestKit.refuses("(a)" + sign + "1", SYNTAX, 3);
            TestKit.refuses("(a)\n" + sign + "1", SYNTAX, 3);
            TestKit.refuses("(a.b)" + sign + "1", SYNTAX, 5);
            TestKit.refuses("1" + sign + "1", SYNTAX, 1);
            TestKit.refuses("true" + sign + "1", SYNTAX, 1);
            TestKit.refuses("a()" + sign + "1", SYNTAX, 3);
            TestKit.refuses("a.b()" + sign + "1", SYNTAX, 5);
            TestKit.refuses("-a" + sign + "1", SYNTAX, 2);
            TestKit.refuses("!a.b" + sign + "1", SYNTAX, 4);
            TestKit.refuses("a + b" + sign + "1", SYNTAX, 3);
            TestKit.refuses("a + b\n" + sign + "1", SYNTAX, 3);
            TestKit.refuses("a || b.c" + sign + "1", SYNTAX, 5);
            TestKit.refuses("a = b + c" + sign + "1", SYNTAX, 5);
            TestKit.refuses("host.a()" + sign + "1", SYNTAX, 5);
            TestKit.refuses("(function () {})" + sign + "1", SYNTAX, 7);
            TestKit.refuses("({})" + sign + "1", SYNTAX, 4);
            TestKit.refuses("a = {}" + sign + "1", SYNTAX, 4);
        }
    }

    private static void ends() {
        TestKit.refuses("a b", SYNTAX, 1);
        TestKit.loads("a\nb");
        TestKit.loads("{ a }");
        TestKit.loads("{ a } b");
        TestKit.refuses("a { }", SYNTAX, 1);
        TestKit.loads("a\n{ }");
        TestKit.refuses("a 1", SYNTAX, 1);
        TestKit.loads("a\n1");
        TestKit.refuses("a var b", SYNTAX, 1);
        TestKit.loads("a\nvar b");
        TestKit.refuses("var a var b", SYNTAX, 2);
        TestKit.loads("var a\nvar b");
        TestKit.loads("var a\n(b)");
        TestKit.refuses("var a (b)", SYNTAX, 2);
        TestKit.loads("var a\n- b");
        TestKit.refuses("var a - b", SYNTAX, 2);
        TestKit.loads("{} a");
        TestKit.loads("if (a) {} b");
        TestKit.loads("try {} catch (a) {} b");
        TestKit.loads("function a() {} b");
        TestKit.refuses("a = function () {} b", SYNTAX, 7);
        TestKit.loads("a = function () {}\nb");
        TestKit.refuses("a ) b", SYNTAX, 1);
        TestKit.refuses("a\n) b", SYNTAX, 1);
        TestKit.refuses("a\n. 1", SYNTAX, 2);
        TestKit.refuses("a\n( b\nc", SYNTAX, 3);
        TestKit.refuses("a\n- ;", SYNTAX, 2);
        TestKit.loads("a\n! b");
        TestKit.refuses("a ! b", SYNTAX, 1);
        TestKit.refuses("throw a b", SYNTAX, 2);
        TestKit.loads("throw a\nb");
        TestKit.loads("throw a\n;");
        TestKit.loads("a\n;");
        TestKit.loads("a\n;;");
    }

    private static void returnsAndThrows() {
        TestKit.refuses("return", SYNTAX, 0);
        TestKit.refuses("{ return }", SYNTAX, 1);
        TestKit.refuses("function a() {} return", SYNTAX, 6);
        TestKit.loads("function a() { { return 1 } }");
        TestKit.loads("function a() { return\n; }");
        TestKit.loads("function a() { return\nb }");
        TestKit.loads("function a() { return\n- b }");
        TestKit.loads("function a() { return\nvar b }");
        TestKit.refuses("function a() { return\n) }", SYNTAX, 6);
        TestKit.refuses("function a() { return\n+ b }", SYNTAX, 6);
        TestKit.refuses("function a() { return var b }", SYNTAX, 6);
        TestKit.refuses("function a() { return", SYNTAX, 6);
        TestKit.refuses("function a() { return b", SYNTAX, 7);
        TestKit.refuses("function a() { return b c", SYNTAX, 7);
        TestKit.loads("function a() { return b\nc }");
        TestKit.loads("function a() { return {} }");
        TestKit.loads("function a() { return function () {} }");
        TestKit.loads("function a() { if (b) return; else return }");
        TestKit.loads("function a() { if (b) return\nelse return }");
        TestKit.refuses("function a() { if (b) return else return }", SYNTAX, 10);
        TestKit.refuses("throw", SYNTAX, 1);
        TestKit.refuses("throw\n", SYNTAX, 1);
        TestKit.refuses("throw;", SYNTAX, 1);
        TestKit.refuses("throw\na", SYNTAX, 1);
        TestKit.refuses("throw\n;", SYNTAX, 1);
        TestKit.refuses("{ throw }", SYNTAX, 2);
        TestKit.loads("throw {}");
        TestKit.loads("throw function () {}");
    }

    private static void loopsAndFunctions() {
        for (String leave : new String[] {"break", "continue"}) {
            TestKit.refuses(leave, SYNTAX, 0);
            TestKit.refuses("if (a) " + leave, SYNTAX, 4);
            TestKit.loads("while (a) " + leave);
            TestKit.loads("while (a) { try { " + leave + " } catch (b) { " + leave + "; } }");
            TestKit.loads("while (a) while (b) " + leave + "\nwhile (c) " + leave);
            TestKit.refuses("while (a) {} " + leave, SYNTAX, 6);
            TestKit.refuses("while (a) b; " + leave, SYNTAX, 6);
            TestKit.refuses("while (a) { b = function () { " + leave, SYNTAX, 11);
            TestKit.loads("while (a) { b = function () { while (c) " + leave + " }; " + leave + " }");
            TestKit.refuses("while (a) { b = function () { while (c) {} " + leave, SYNTAX, 17);
            TestKit.refuses("while (function () { " + leave, SYNTAX, 6);
            TestKit.refuses("function a() { " + leave, SYNTAX, 5);
            TestKit.refuses("function a() { while (b) {} } " + leave, SYNTAX, 12);
            TestKit.refuses("while (a) " + leave + " b", SYNTAX, 5);
            TestKit.loads("while (a) " + leave + "\nb");
            TestKit.loads("while (a) " + leave + "\n(b)");
        }
    }

    private static void stateAfterLoad() {
        for (String more : new String[] {"", " )"}) {
            BridgedScriptEngine engine = new BridgedScriptEngine();
            engine.overload(7, 5, 0, 2);
            TestKit.feed(engine, "a = host.h(1)\nfunction f() { return 4 }");
            TestKit.due("load", engine.load(), TestKit.OK);
            TestKit.due("no run yet", TestKit.global(engine, 'f'), TestKit.ABSENT);
            TestKit.due("run", engine.run(), TestKit.DONE);
            long first = TestKit.global(engine, 'a');
            TestKit.due("call", engine.call(5, 0, 0), TestKit.DONE);
            TestKit.due("result before", engine.result(), TestKit.num(4));
            TestKit.feed(engine, more);
            TestKit.due("load again", engine.load(), more.isEmpty() ? TestKit.OK : SYNTAX);
            TestKit.due("errorAt", engine.errorAt(), more.isEmpty() ? -1 : 16);
            TestKit.due("global", TestKit.global(engine, 'a'), TestKit.ABSENT);
            TestKit.due("function", TestKit.global(engine, 'f'), TestKit.ABSENT);
            TestKit.due("result", engine.result(), TestKit.UNDEFINED);
            TestKit.due("traceCount", engine.traceCount(), 0);
            TestKit.due("traceMethod", engine.traceMethod(0), -1);
            TestKit.due("traceArg", engine.traceArg(0, 0), 0);
            TestKit.due("call", engine.call(5, 0, 0), more.isEmpty() ? TestKit.NO_FUNCTION : TestKit.NOT_LOADED);
            engine.wipe();
            TestKit.feed(engine, "a = host.h(1)");
            TestKit.due("load a third time", engine.load(), TestKit.OK);
            TestKit.due("errorAt after OK", engine.errorAt(), -1);
            TestKit.due("run a second time", engine.run(), TestKit.DONE);
            TestKit.due("the host memory began anew", TestKit.global(engine, 'a'), first);
        }
    }
}
