/** Sources of the full 160 tokens that nest as deep as they can: no table of the class may be too short for them. */
public final class DeepTest {
    public static void main(String[] args) {
        deepExpressions();
        deepStatements();
        deepOperands();
        manyOperands();
        unfinished();
        TestKit.end();
    }

    private static void deepExpressions() {
        TestKit.leaves("r = " + TestKit.times("(", 78) + "7" + TestKit.times(")", 78), TestKit.num(7));
        TestKit.leaves("r = " + TestKit.times("- ", 157) + "7", TestKit.num(-7));
        TestKit.leaves("r = " + TestKit.times("~ - ", 78) + "7", TestKit.num(7 - 78));
        TestKit.leaves(TestKit.times("r = ", 79) + "7", TestKit.num(7));
        TestKit.leaves("var r = 1; " + TestKit.times("r += ", 77) + "1", TestKit.num(78));
        TestKit.leaves("r = " + TestKit.times("1 + ", 78) + "1", TestKit.num(79));
        TestKit.leaves("r = " + TestKit.times("0 || ", 78) + "4", TestKit.num(4));
        TestKit.leaves("r = " + TestKit.times("1 && ", 78) + "4", TestKit.num(4));
        TestKit.leaves("r = " + TestKit.times("0 ? 1 : ", 39) + "5", TestKit.num(5));
        TestKit.leaves("r = " + TestKit.times("1 ? ", 39) + "6" + TestKit.times(": 1", 39), TestKit.num(6));
        TestKit.leaves("r = " + TestKit.times("1 + (", 39) + "1" + TestKit.times(")", 39), TestKit.num(40));
        TestKit.leaves("r = " + TestKit.times("1 - - (", 31) + "1" + TestKit.times(")", 31), TestKit.num(32));
        TestKit.leaves("r = " + TestKit.times("{a : ", 39) + "1" + TestKit.times("}", 39), TestKit.obj(1));
        TestKit.leaves("r = 0 || 1 && 0 | 0 ^ 1 & 1 == 1 < 1 << 1 + 1 * 2", TestKit.num(1));
        TestKit.throwsValue("o = {}; o" + TestKit.times(".a", 77), TestKit.err(1));
        TestKit.throwsValue("o = {}; o" + TestKit.times("()", 77), TestKit.err(1));
        TestKit.leaves("function f(a) { return a } r = " + TestKit.times("f(", 7) + "3" + TestKit.times(")", 7), TestKit.num(3));
        TestKit.leaves("function f(a) { return a } r = " + TestKit.times("f(", 49) + "3" + TestKit.times(")", 49), TestKit.num(3));
    }

    private static void deepStatements() {
        TestKit.leaves(TestKit.times("{", 78) + "r = 2" + TestKit.times("}", 78), TestKit.num(2));
        TestKit.leaves(TestKit.times("if (1)", 39) + "r = 2", TestKit.num(2));
        TestKit.leaves("r = 2;" + TestKit.times("if (1) ; else ", 25) + ";", TestKit.num(2));
        TestKit.leaves(TestKit.times("if (0) ; else ", 25) + "r = 2", TestKit.num(2));
        TestKit.leaves(TestKit.times("try {", 6) + "throw 1" + TestKit.times("} catch (e) { throw e + 1 }", 5) + "} catch (r) { }", TestKit.num(6));
        TestKit.leaves("r = 0; " + TestKit.times("while (1) {", 8) + "r += 1; break }" + TestKit.times("break }", 7), TestKit.num(1));
        TestKit.stops(TestKit.times("while (1)", 8) + ";");
    }

    private static void deepOperands() {
        String deep = "function f(n) { return n ? " + TestKit.times("1 + (", 30) + "f(n - 1)" + TestKit.times(")", 30) + " : 1 } ";
        TestKit.leaves(deep + "r = f(7)", TestKit.num(211));
        TestKit.throwsValue(deep + "f(8)", TestKit.err(3));
        TestKit.leaves(deep + "try { f(8) } catch (e) { r = f(7) }", TestKit.num(211));
        String adding = "function f(n) { var a = 0; return n ? " + TestKit.times("a += ", 50) + "f(n - 1) + 1 : 1 } ";
        TestKit.leaves(adding + "r = f(7)", TestKit.num(8));
        String objects = "function f(n) { return n ? " + TestKit.times("{a : ", 6) + "f(n - 1)" + TestKit.times("}", 6) + " : 1 } ";
        TestKit.leaves(objects + "r = f(7).a.a.a.a.a.a.a.a.a.a", TestKit.obj(1));
    }

    /** What is left over by statements, throws, returns and stops must not add up. */
    private static void manyOperands() {
        TestKit.leaves("r = 0; while (r < 60) { r += 1" + TestKit.times("; 1", 60) + " }", TestKit.num(60));
        TestKit.leaves("r = 0; while (r < 60) { r += 1" + TestKit.times("\nvar a = 1", 36) + " }", TestKit.num(60));
        String rising = "1 | 1 ^ 1 & 1 == 1 < 1 << 1 + 1 * (";
        String throwing = "try { " + TestKit.times(rising, 6) + "z" + TestKit.times(")", 6) + " } catch (e) { } ";
        TestKit.leaves("r = 0; while (r < 63) { r += 1; " + throwing + "} r += e", TestKit.num(65));
        BridgedScriptEngine engine = TestKit.ran("function f(n) { while (n) ; return " + TestKit.times("1 + (", 30) + "f(1)" + TestKit.times(")", 30)
            + " } function g() { return 5 }");
        for (int i = 0; i < 100; i++) {
            TestKit.due("stopped " + i, engine.call(TestKit.name('f'), 0, 0), TestKit.STOPPED);
        }
        TestKit.due("call after many stops", engine.call(TestKit.name('g'), 0, 0), TestKit.DONE);
        TestKit.due("its result", engine.result(), TestKit.num(5));
    }

    private static void unfinished() {
        String[] parts = {"(", "{", "- ", "a = ", "a + ", "a ? ", "a(", "a(a, ", "{ ; ", "if (", "if (a) ", "a . b = ", "(a + ", "host . a (", "a ? a : "};
        for (String part : parts) {
            int length = TestKit.tokensOf(part).size();
            int count = 160 / length;
            TestKit.refuses(TestKit.times(part, count), TestKit.SYNTAX, part.equals("if (") ? 2 : count * length);
        }
    }
}
