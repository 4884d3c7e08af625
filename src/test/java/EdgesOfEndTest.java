/** The edges of END: every kind of token, with and without a line end before it, where a statement may end. */
public final class EdgesOfEndTest {
    private static final int OK = TestKit.OK;
    private static final int SYNTAX = TestKit.SYNTAX;

    /** Tokens that continue an expression, and those that only continue one that ends with a target. */
    private static final String CONTINUING = "( . ? || && | ^ & == != === !== < > <= >= << >> >>> + - * / %";
    private static final String ASSIGNING = "= += -= *= &=";

    /** Tokens that begin a statement of a program, those that are one alone, and those that begin an expression. */
    private static final String BEGINNING = "( { - ! ~ var function if while throw try host";
    private static final String ALONE = "a 1 ; true false null undefined";
    private static final String EXPRESSION = "( { - ! ~ function host a 1 true false null undefined";

    public static void main(String[] args) {
        expressions();
        variables();
        breaks();
        thrown();
        returned();
        insideBraces();
        afterReturn();
        afterThrow();
        semicolons();
        continuedOverLines();
        valuesOfReturn();
        TestKit.end();
    }

    private static boolean has(String kinds, int kind) {
        for (int[] token : TestKit.tokensOf(kinds)) {
            if (token[0] == kind) {
                return true;
            }
        }
        return false;
    }

    private static String textOf(int kind) {
        return kind == 0 ? "a" : kind == 1 ? "1" : TestKit.TEXTS[kind];
    }

    /** Puts every kind after a whole statement of the program, and then the end of the source. */
    private static void endOf(String statement, String continuing) {
        int place = TestKit.tokensOf(statement).size();
        TestKit.loads(statement);
        TestKit.loads(statement + "\n");
        for (int kind = 0; kind <= 54; kind++) {
            String next = textOf(kind);
            boolean goesOn = has(continuing, kind);
            boolean begins = has(BEGINNING, kind);
            boolean alone = has(ALONE, kind);
            if (goesOn) {
                TestKit.refuses(statement + " " + next, SYNTAX, place + 1);
                TestKit.refuses(statement + "\n" + next, SYNTAX, place + 1);
            } else if (kind == 2) {
                TestKit.loads(statement + next);
                TestKit.loads(statement + "\n" + next);
            } else {
                TestKit.refuses(statement + " " + next, SYNTAX, place);
                TestKit.refuses(statement + "\n" + next, alone ? OK : SYNTAX, alone ? -1 : begins ? place + 1 : place);
            }
        }
    }

    private static void expressions() {
        TestKit.sentence("An expression is first continued with every following token that can continue it by the grammar, line ends or not.");
        for (String target : new String[] {"a", "a.b", "a().b", "b = a", "b ? c : a", "b.c += a.b", "var b = a"}) {
            endOf(target, CONTINUING + " " + ASSIGNING);
        }
        for (String other : new String[] {"1", "a()", "(a)", "-a", "a + b", "a = 1", "a ? b : c + d", "a = {}", "a = function () {}", "host.a()", "a = !b.c"}) {
            endOf(other, CONTINUING);
        }
    }

    private static void variables() {
        TestKit.sentence("var x = e: the = is taken if it follows, line end or not.");
        endOf("var a", "=");
        TestKit.leaves("var r = 4", TestKit.num(4));
        TestKit.leaves("var r\n= 4", TestKit.num(4));
        TestKit.leaves("var r\n=\n4", TestKit.num(4));
        TestKit.leaves("r = 4; a = 1; var r\n(a = 2)", TestKit.num(4));
        TestKit.leaves("var a\n-1; r = a", TestKit.UNDEFINED);
    }

    private static void breaks() {
        TestKit.sentence("If not, nothing is taken, and the next token must be \"}\" or the end of the source or stand after a line end.");
        endOf("while (a) break", "");
        endOf("while (a) continue", "");
        TestKit.loads("while (a) { break }");
        TestKit.loads("while (a) { continue }");
    }

    private static void thrown() {
        TestKit.sentence("throw assign END");
        endOf("throw a", CONTINUING + " " + ASSIGNING);
        endOf("throw a + 1", CONTINUING);
        endOf("throw {}", CONTINUING);
    }

    /** The same inside a function, where "}" ends both the statement and the body. */
    private static void returned() {
        TestKit.sentence("else an assign follows, and then END.");
        endInFunction("function f() { return a", CONTINUING + " " + ASSIGNING);
        endInFunction("function f() { return a + 1", CONTINUING);
        endInFunction("function f() { return {}", CONTINUING);
        endInFunction("function f() { var a", "=");
        endInFunction("function f() { a", CONTINUING + " " + ASSIGNING);
        endInFunction("function f() { throw a", CONTINUING + " " + ASSIGNING);
    }

    private static void endInFunction(String head, String continuing) {
        int place = TestKit.tokensOf(head).size();
        TestKit.refuses(head, SYNTAX, place);
        for (int kind = 0; kind <= 54; kind++) {
            String next = textOf(kind);
            boolean goesOn = has(continuing, kind);
            boolean begins = has(BEGINNING + " " + ALONE + " return", kind);
            if (kind == 7) {
                TestKit.loads(head + next);
                TestKit.loads(head + "\n" + next);
            } else {
                TestKit.refuses(head + " " + next, SYNTAX, goesOn || kind == 2 ? place + 1 : place);
                TestKit.refuses(head + "\n" + next, SYNTAX, goesOn || begins ? place + 1 : place);
            }
        }
    }

    private static void insideBraces() {
        TestKit.sentence("the next token must be \"}\"");
        for (String statement : new String[] {"a", "a = 1", "var a", "var a = 1", "throw a", "a ? b : c"}) {
            int count = TestKit.tokensOf(statement).size();
            TestKit.loads("{ " + statement + " }");
            TestKit.loads("{ " + statement + "\n}");
            TestKit.loads("{ " + statement + ";}");
            TestKit.loads("{ { " + statement + " } }");
            TestKit.refuses(statement + " }", SYNTAX, count);
            TestKit.refuses("{ " + statement, SYNTAX, count + 1);
            TestKit.refuses("{ " + statement + " ) }", SYNTAX, count + 1);
        }
    }

    private static void afterReturn() {
        TestKit.sentence("After return: a next token ; is taken, line end or not, and ends the statement; "
            + "else \"}\", the end of the source, or a line end before the next token end it");
        String head = "function f() { return";
        TestKit.refuses(head, SYNTAX, 6);
        TestKit.refuses(head + "\n", SYNTAX, 6);
        for (int kind = 0; kind <= 54; kind++) {
            String next = textOf(kind);
            if (kind == 7) {
                TestKit.loads(head + next);
                TestKit.loads(head + "\n" + next);
            } else {
                TestKit.refuses(head + " " + next, SYNTAX, kind == 2 || has(EXPRESSION, kind) ? 7 : 6);
                TestKit.refuses(head + "\n" + next, SYNTAX, has(BEGINNING + " " + ALONE + " return", kind) ? 7 : 6);
            }
        }
        TestKit.loads(head + ";}");
        TestKit.loads(head + "; a }");
        TestKit.loads(head + "\n; a }");
        TestKit.loads(head + "\na }");
        TestKit.refuses(head + " a b }", SYNTAX, 7);
    }

    private static void afterThrow() {
        TestKit.sentence("After throw a line end before the next token is an error at that token.");
        TestKit.refuses("throw", SYNTAX, 1);
        TestKit.refuses("throw\n", SYNTAX, 1);
        for (int kind = 0; kind <= 54; kind++) {
            boolean fits = has(EXPRESSION, kind);
            boolean whole = fits && has(ALONE, kind);
            TestKit.refuses("throw " + textOf(kind), whole ? OK : SYNTAX, whole ? -1 : fits ? 2 : 1);
            TestKit.refuses("throw\n" + textOf(kind), SYNTAX, 1);
        }
        TestKit.refuses("{ throw\n}", SYNTAX, 2);
        TestKit.refuses("a; throw\nb; )", SYNTAX, 3);
        TestKit.loads("throw (\na\n)");
        TestKit.loads("throw a\n.\nb");
    }

    /** With an else behind it one sees whether END has taken the ; or left it as a statement of its own. */
    private static void semicolons() {
        TestKit.sentence("END: a ; is taken if it is the next token.");
        for (String statement : new String[] {"b", "b = 1", "var b", "var b = 1", "throw b", "return", "return b"}) {
            String head = "function f() { if (a) " + statement;
            int count = TestKit.tokensOf(head).size();
            TestKit.loads(head + "; else c }");
            TestKit.loads(head + "\n; else c }");
            TestKit.loads(head + "\nelse c }");
            TestKit.refuses(head + " else c }", SYNTAX, count);
            TestKit.refuses(head + ";; else c }", SYNTAX, count + 2);
            TestKit.refuses(head + "\n;\n; else c }", SYNTAX, count + 2);
        }
        for (String statement : new String[] {"break", "continue"}) {
            String head = "while (a) if (b) " + statement;
            TestKit.loads(head + "; else c");
            TestKit.loads(head + "\n; else c");
            TestKit.loads(head + "\nelse c");
            TestKit.refuses(head + " else c", SYNTAX, 9);
            TestKit.refuses(head + ";; else c", SYNTAX, 11);
        }
    }

    private static void continuedOverLines() {
        TestKit.sentence("An expression is first continued with every following token that can continue it by the grammar, line ends or not.");
        for (int kind = 16; kind <= 36; kind++) {
            String sign = TestKit.TEXTS[kind];
            TestKit.leaves("a = 13 " + sign + " 5; b = 13\n" + sign + "\n5\nr = a === b", TestKit.bool(true));
        }
        TestKit.leaves("r = 1\n?\n2\n:\n3", TestKit.num(2));
        TestKit.leaves("o = {p : 4}\nr = o\n.\np", TestKit.num(4));
        TestKit.leaves("function f(a) { return a }\nr = f\n(\n6\n)", TestKit.num(6));
        TestKit.leaves("r\n=\n7", TestKit.num(7));
        TestKit.leaves("r = 8\nr\n+=\n1", TestKit.num(9));
        TestKit.leaves("r = 1\n-2\n~3", TestKit.num(-1));
        TestKit.leaves("r = 1\n!2", TestKit.num(1));
        TestKit.leaves("r = 1\n{ r = 2 }", TestKit.num(2));
    }

    private static void valuesOfReturn() {
        TestKit.sentence("(all these answer undefined)");
        TestKit.leaves("function f() { return; } r = f()", TestKit.UNDEFINED);
        TestKit.leaves("function f() { return\n; } r = f()", TestKit.UNDEFINED);
        TestKit.leaves("function f() { return } r = f()", TestKit.UNDEFINED);
        TestKit.leaves("function f() { return\n} r = f()", TestKit.UNDEFINED);
        TestKit.leaves("function f() { return\n5 } r = f()", TestKit.UNDEFINED);
        TestKit.leaves("function f() { return\n{ } } r = f()", TestKit.UNDEFINED);
        TestKit.leaves("function f() { if (0) return\n5; return 6 } r = f()", TestKit.num(6));
        TestKit.leaves("function f() { return 5 } r = f()", TestKit.num(5));
        TestKit.leaves("function f() { return 5\n} r = f()", TestKit.num(5));
        TestKit.leaves("function f() { return 5\n6 } r = f()", TestKit.num(5));
        TestKit.leaves("function f() { return 5\n-6 } r = f()", TestKit.num(-1));
        TestKit.leaves("function f() { return {\n} } r = f()", TestKit.obj(0));
    }
}
