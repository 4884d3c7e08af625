/** The edges of GRAMMAR: what is optional, any number of times or at most three, and what may stand where. */
public final class EdgesOfGrammarTest {
    private static final int SYNTAX = TestKit.SYNTAX;
    private static final int LIMIT = TestKit.LIMIT;

    /** The operators of each priority, the lowest first. */
    private static final String[][] PRIORITIES = {
        {"||"}, {"&&"}, {"|"}, {"^"}, {"&"}, {"==", "!=", "===", "!=="}, {"<", ">", "<=", ">="}, {"<<", ">>", ">>>"}, {"+", "-"}, {"*", "/", "%"}
    };
    private static final int[][] OPERANDS = {{5, 3, 2}, {0, 7, 2}, {6, 0, 3}, {12, 10, 1}, {1, 1, 0}, {0, 0, 5}, {9, 2, 2}};

    public static void main(String[] args) {
        programs();
        parameters();
        callArguments();
        hostArguments();
        bodiesAndBlocks();
        optionalParts();
        beginningsOfStatements();
        objects();
        targets();
        conditionals();
        pairsOfOperators();
        unaries();
        operands();
        primaries();
        breakAndContinue();
        returns();
        elses();
        TestKit.end();
    }

    private static void programs() {
        TestKit.sentence("program    = {item} end-of-source");
        TestKit.loads("");
        TestKit.loads("a");
        TestKit.loads("function a() {}");
        TestKit.loads(TestKit.times(";", 160));
        TestKit.loads(TestKit.times("\na", 160));
        TestKit.refuses(TestKit.times(";", 159) + "}", SYNTAX, 159);
        TestKit.refuses(TestKit.times(";", 159) + "{", SYNTAX, 160);
    }

    private static void parameters() {
        TestKit.sentence("params     = NAME {, NAME}                       at most 3");
        for (String head : new String[] {"function f(", "a = function ("}) {
            int before = TestKit.tokensOf(head).size();
            TestKit.loads(head + ") {}");
            TestKit.loads(head + "b) {}");
            TestKit.loads(head + "b, c) {}");
            TestKit.loads(head + "b, c, d) {}");
            TestKit.refuses(head + "b, c, d, e) {}", LIMIT, before + 5);
            TestKit.refuses(head + "b, c, d,", LIMIT, before + 5);
            TestKit.refuses(head + ", b) {}", SYNTAX, before);
            TestKit.refuses(head + "b,) {}", SYNTAX, before + 2);
            TestKit.refuses(head + "b, c,) {}", SYNTAX, before + 4);
            TestKit.refuses(head + "b c) {}", SYNTAX, before + 1);
            TestKit.refuses(head + "b, c, d e) {}", SYNTAX, before + 5);
            TestKit.refuses(head + "1) {}", SYNTAX, before);
        }
        TestKit.leaves("function f(b, c, d) { return b * 100 + c * 10 + d } r = f(1, 2, 3)", TestKit.num(123));
    }

    private static void callArguments() {
        TestKit.sentence("operand    = primary { . NAME | ( [assign {, assign}] ) }      at most 3 arguments a call");
        argumentsAfter("a(");
        argumentsAfter("a.b(");
        argumentsAfter("a()(");
        argumentsAfter("(function () {})(");
        TestKit.loads("a(b(1, 2, 3), c(1, 2, 3), d(1, 2, 3))");
        TestKit.refuses("a(b(1, 2, 3), c(1, 2, 3), d(1, 2, 3), 4)", LIMIT, 28);
        TestKit.refuses("a(b(1, 2, 3, 4))", LIMIT, 9);
    }

    private static void hostArguments() {
        TestKit.sentence("host . NAME ( [assign {, assign}] )               at most 3 arguments");
        argumentsAfter("host.a(");
        TestKit.refuses("host.a(1, 2, 3)(1, 2, 3, 4)", LIMIT, 16);
    }

    private static void argumentsAfter(String head) {
        int before = TestKit.tokensOf(head).size();
        TestKit.loads(head + ")");
        TestKit.loads(head + "1)");
        TestKit.loads(head + "1, 2)");
        TestKit.loads(head + "1, 2, 3)");
        TestKit.refuses(head + "1, 2, 3, 4)", LIMIT, before + 5);
        TestKit.refuses(head + "1, 2, 3,", LIMIT, before + 5);
        TestKit.refuses(head + ", 1)", SYNTAX, before);
        TestKit.refuses(head + "1,)", SYNTAX, before + 2);
        TestKit.refuses(head + "1, 2,)", SYNTAX, before + 4);
        TestKit.refuses(head + "1 2)", SYNTAX, before + 1);
        TestKit.refuses(head + "1, 2, 3 4)", SYNTAX, before + 5);
    }

    private static void bodiesAndBlocks() {
        TestKit.sentence("(no functions are declared inside blocks)");
        TestKit.loads("function f() {}");
        TestKit.loads("function f() { a; b; function g() {} c; function h() {} }");
        TestKit.loads("{}");
        TestKit.loads("{ a; b; { c } }");
        String[] heads = {"{", "{ a;", "{ {", "if (a) {", "if (a)", "if (a) {} else", "while (a) {", "while (a)", "try {", "try {} catch (e) {",
            "function f() { {", "function f() { if (a)"};
        for (String head : heads) {
            int before = TestKit.tokensOf(head).size();
            TestKit.refuses(head + " function g() {}", SYNTAX, before);
            TestKit.refuses(head + " function () {}", SYNTAX, before);
        }
        TestKit.loads("{ a = function () {} }");
        TestKit.loads("{ (function () {}) }");
        TestKit.loads("{ (function () { function g() {} }) }");
    }

    private static void optionalParts() {
        TestKit.sentence("GRAMMAR ([x] optional, {x} any number of times, | or)");
        TestKit.loads("var a");
        TestKit.loads("var a = b");
        TestKit.refuses("var a =", SYNTAX, 3);
        TestKit.refuses("var", SYNTAX, 1);
        TestKit.loads("if (a) b");
        TestKit.loads("if (a) b; else c");
        TestKit.refuses("if (a)", SYNTAX, 4);
        TestKit.refuses("if (a) b; else", SYNTAX, 7);
        TestKit.loads("function f() { return }");
        TestKit.loads("function f() { return a }");
        TestKit.refuses("throw", SYNTAX, 1);
        TestKit.loads("throw a");
        TestKit.refuses("try {}", SYNTAX, 3);
        TestKit.refuses("try {} catch () {}", SYNTAX, 5);
        TestKit.refuses("try {} catch (a)", SYNTAX, 7);
        TestKit.loads("try {} catch (a) {}");
        TestKit.refuses("while () a", SYNTAX, 2);
        TestKit.refuses("if () a", SYNTAX, 2);
        TestKit.refuses("()", SYNTAX, 1);
    }

    private static void beginningsOfStatements() {
        TestKit.sentence("(assign not beginning with \"{\" or function)");
        TestKit.loads("{ }");
        TestKit.refuses("{ a : 1 }", SYNTAX, 2);
        TestKit.refuses("{ }.a", SYNTAX, 2);
        TestKit.refuses("{ }.a = 1", SYNTAX, 2);
        TestKit.refuses("{ } = 1", SYNTAX, 2);
        TestKit.loads("{ }\n-1");
        TestKit.loads("{ } -1");
        TestKit.loads("({ a : 1 })");
        TestKit.loads("a = { b : 1 }");
        TestKit.refuses("function () {}", SYNTAX, 1);
        TestKit.refuses("function () {}()", SYNTAX, 1);
        TestKit.refuses("function f() {}.a", SYNTAX, 6);
        TestKit.loads("function f() {} (a)");
        TestKit.loads("(function () {})");
        TestKit.loads("-{ a : 1 }.a");
        TestKit.loads("!function () {}()");
    }

    private static void objects() {
        TestKit.sentence("\"{\" [NAME : assign {, NAME : assign}] \"}\"");
        TestKit.loads("a = {}");
        TestKit.loads("a = {b : 1}");
        TestKit.loads("a = {b : 1, c : 2, d : 3, e : 4, f : 5, g : 6}");
        TestKit.loads("a = {b : c = 1, d : e ? f : g}");
        TestKit.refuses("a = {,}", SYNTAX, 3);
        TestKit.refuses("a = {b : 1,}", SYNTAX, 7);
        TestKit.refuses("a = {b}", SYNTAX, 4);
        TestKit.refuses("a = {b : }", SYNTAX, 5);
        TestKit.refuses("a = {1 : 1}", SYNTAX, 3);
        TestKit.refuses("a = {b : 1; c : 2}", SYNTAX, 6);
        TestKit.refuses("a = {b : 1\nc : 2}", SYNTAX, 6);
    }

    private static void targets() {
        TestKit.sentence("(a name or a member, not in round brackets)");
        for (int kind = 11; kind <= 15; kind++) {
            String sign = " " + TestKit.TEXTS[kind] + " ";
            TestKit.loads("a" + sign + "1");
            TestKit.loads("a.b" + sign + "1");
            TestKit.loads("a().b" + sign + "1");
            TestKit.loads("(a).b" + sign + "1");
            TestKit.loads("1.b" + sign + "1");
            TestKit.loads("host.a().b" + sign + "1");
            TestKit.loads("c = {}.b" + sign + "1");
            TestKit.loads("c = function () {}.b" + sign + "1");
            TestKit.refuses("(a)" + sign + "1", SYNTAX, 3);
            TestKit.refuses("(a.b)" + sign + "1", SYNTAX, 5);
            TestKit.refuses("a()" + sign + "1", SYNTAX, 3);
            TestKit.refuses("1" + sign + "1", SYNTAX, 1);
            TestKit.refuses("undefined" + sign + "1", SYNTAX, 1);
            TestKit.refuses("-a" + sign + "1", SYNTAX, 2);
            TestKit.refuses("a + b" + sign + "1", SYNTAX, 3);
            TestKit.refuses("a + b.c" + sign + "1", SYNTAX, 5);
        }
    }

    private static void conditionals() {
        TestKit.sentence("binary [? assign : assign]");
        TestKit.loads("a ? b : c");
        TestKit.loads("a ? b = 1 : c = 2");
        TestKit.loads("a ? b ? c : d : e ? f : g");
        TestKit.loads("a || b ? c : d");
        TestKit.refuses("a ? b", SYNTAX, 3);
        TestKit.refuses("a ? b :", SYNTAX, 4);
        TestKit.refuses("a ? b : c : d", SYNTAX, 5);
        TestKit.refuses("a ? b, c : d", SYNTAX, 3);
        TestKit.refuses("a ? b : c = d ? e", SYNTAX, 9);
        TestKit.refuses("a + (b ? c) : d", SYNTAX, 6);
        TestKit.leaves("a = 0; r = 0 ? 1 : a = 2; r = r * 10 + a", TestKit.num(22));
    }

    private static void pairsOfOperators() {
        TestKit.sentence("rising priority, all grouping to the left");
        for (int low = 0; low < PRIORITIES.length; low++) {
            for (int high = 0; high < PRIORITIES.length; high++) {
                for (String one : PRIORITIES[low]) {
                    for (String other : PRIORITIES[high]) {
                        groups(one, other, low >= high);
                    }
                }
            }
        }
    }

    private static void groups(String one, String other, boolean toTheLeft) {
        for (int[] n : OPERANDS) {
            String plain = n[0] + " " + one + " " + n[1] + " " + other + " " + n[2];
            String left = "(" + n[0] + " " + one + " " + n[1] + ") " + other + " " + n[2];
            String right = n[0] + " " + one + " (" + n[1] + " " + other + " " + n[2] + ")";
            TestKit.due(plain, thrownBy(plain), thrownBy(toTheLeft ? left : right));
        }
    }

    /** The expression's value, or the error that its evaluation throws. */
    private static long thrownBy(String expression) {
        BridgedScriptEngine engine = TestKit.loaded("throw " + expression);
        TestKit.due("run of " + expression, engine.run(), TestKit.THROWN);
        return engine.result();
    }

    private static void unaries() {
        TestKit.sentence("unary      = (- | ! | ~) unary | operand");
        TestKit.yields("- - 3", TestKit.num(3));
        TestKit.yields("!!3", TestKit.bool(true));
        TestKit.yields("~~3", TestKit.num(3));
        TestKit.yields("-~!3", TestKit.num(1));
        TestKit.yields("2 - - - 3", TestKit.num(-1));
        TestKit.yields("-2 * -3", TestKit.num(6));
        TestKit.yields("-{a : 4}.a", TestKit.num(-4));
        TestKit.yields("-function () { return 4 }()", TestKit.num(-4));
        TestKit.yields("!0 == 1", TestKit.bool(true));
        TestKit.refuses("-", SYNTAX, 1);
        TestKit.refuses("+a", SYNTAX, 0);
        TestKit.refuses("a = +b", SYNTAX, 2);
        TestKit.refuses("a !b", SYNTAX, 1);
    }

    private static void operands() {
        TestKit.sentence("operand    = primary { . NAME | ( [assign {, assign}] ) }");
        TestKit.loads("a");
        TestKit.loads("a" + TestKit.times(".b", 79));
        TestKit.loads("a" + TestKit.times("()", 79));
        TestKit.loads("a" + TestKit.times(".b()", 39));
        TestKit.refuses("a.", SYNTAX, 2);
        TestKit.refuses("a.1", SYNTAX, 2);
        TestKit.refuses("a.(b)", SYNTAX, 2);
        TestKit.refuses("a..b", SYNTAX, 2);
        TestKit.refuses("a.var", SYNTAX, 2);
        TestKit.leaves("o = {f : function () { return {g : function (a) { return a + 1 }} }}; r = o.f().g(4)", TestKit.num(5));
    }

    private static void primaries() {
        TestKit.sentence("primary    = NAME | NUMBER | true | false | null | undefined | ( assign )");
        String[] whole = {"a", "1", "true", "false", "null", "undefined", "(a)", "(a = 1)", "(a ? b : c)", "host.a()"};
        for (String primary : whole) {
            TestKit.loads(primary);
            TestKit.loads("a = " + primary + " + " + primary);
        }
        TestKit.refuses("(a, b)", SYNTAX, 2);
        TestKit.refuses("(a; b)", SYNTAX, 2);
        TestKit.refuses("(a", SYNTAX, 2);
        TestKit.refuses("host", SYNTAX, 1);
        TestKit.refuses("host(1)", SYNTAX, 1);
        TestKit.refuses("host.a", SYNTAX, 3);
        TestKit.refuses("host.a.b()", SYNTAX, 3);
        TestKit.refuses("a = function b() {}", SYNTAX, 3);
        TestKit.refuses("a = function ()", SYNTAX, 5);
        TestKit.refuses("a = function () b", SYNTAX, 5);
    }

    private static void breakAndContinue() {
        TestKit.sentence("break and continue stand only inside a while statement of the same function (or of the program outside functions)");
        for (String leave : new String[] {"break", "continue"}) {
            TestKit.loads("while (a) " + leave);
            TestKit.loads("while (a) { if (b) { try { " + leave + " } catch (c) { " + leave + " } } }");
            TestKit.loads("function f() { while (a) " + leave + " }");
            TestKit.loads("while (a) { b = function () { while (c) { " + leave + " } }; " + leave + " }");
            TestKit.refuses(leave, SYNTAX, 0);
            TestKit.refuses("{ " + leave + " }", SYNTAX, 1);
            TestKit.refuses("if (a) " + leave, SYNTAX, 4);
            TestKit.refuses("while (a) b; " + leave, SYNTAX, 6);
            TestKit.refuses("while (a) { } " + leave, SYNTAX, 6);
            TestKit.refuses("function f() { " + leave + " }", SYNTAX, 5);
            TestKit.refuses("while (a) { b = function () { " + leave + " } }", SYNTAX, 11);
            TestKit.refuses("while (a) { b = function () { while (c) ; " + leave + " } }", SYNTAX, 16);
            TestKit.refuses("while (function () { " + leave + " }) ;", SYNTAX, 6);
            TestKit.refuses("function f() { while (a) ; } " + leave, SYNTAX, 11);
        }
    }

    private static void returns() {
        TestKit.sentence("return stands only inside a function.");
        TestKit.loads("function f() { return }");
        TestKit.loads("function f() { while (a) { if (b) return } }");
        TestKit.loads("a = function () { return 1 }");
        TestKit.loads("function f() { function g() { return 1 } return 2 }");
        TestKit.refuses("return", SYNTAX, 0);
        TestKit.refuses("{ return }", SYNTAX, 1);
        TestKit.refuses("while (a) return", SYNTAX, 4);
        TestKit.refuses("function f() { } return", SYNTAX, 6);
        TestKit.refuses("a = function () { }\nreturn", SYNTAX, 7);
        TestKit.refuses("function f() { function g() { } } return", SYNTAX, 12);
    }

    private static void elses() {
        TestKit.sentence("else belongs to the nearest if that can take it.");
        TestKit.leaves("r = 0; if (1) if (0) r = 1; else r = 2", TestKit.num(2));
        TestKit.leaves("r = 0; if (0) if (0) r = 1; else r = 2", TestKit.num(0));
        TestKit.leaves("r = 0; if (0) if (0) r = 1; else r = 2; else r = 3", TestKit.num(3));
        TestKit.leaves("r = 0; if (0) { if (0) r = 1 } else r = 2", TestKit.num(2));
        TestKit.leaves("r = 0; if (1) while (0) if (0) ; else r = 1; else r = 2", TestKit.num(0));
        TestKit.leaves("r = 0; if (0) while (0) ; else r = 2", TestKit.num(2));
        TestKit.refuses("else a", SYNTAX, 0);
        TestKit.refuses("if (a) b; else c; else d", SYNTAX, 9);
        TestKit.refuses("if (a) b; ; else c", SYNTAX, 7);
        TestKit.refuses("if (a) if (b) c; else d; else e; else f", SYNTAX, 16);
    }
}
