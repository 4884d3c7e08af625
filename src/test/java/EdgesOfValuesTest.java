/** The edges of VALUES and, in MEANING, of the errors, TRUTH, TOINT and the operators, a sentence at a time. */
public final class EdgesOfValuesTest {
    private static final int MIN = Integer.MIN_VALUE;
    private static final int MAX = Integer.MAX_VALUE;

    /** What makes the globals e (ERR 2), m (the least NUM), o and f ready for the expressions below. */
    private static final String MAKE = "var o = {}; function f() { } try { z } catch (e) { } var m = -2147483647 - 1; ";

    public static void main(String[] args) {
        kindsAndPayloads();
        wrapAround();
        theSevenErrors();
        truth();
        toInt();
        toIntOfObjects();
        decidingOperands();
        bothOperandsFirst();
        shifts();
        divisions();
        comparisons();
        strictEquality();
        looseEquality();
        conditions();
        TestKit.end();
    }

    private static void gives(String expression, long value) {
        TestKit.leaves(MAKE + "var r = " + expression, value);
    }

    private static void fails(String expression, int code) {
        TestKit.throwsValue(MAKE + "r = " + expression, TestKit.err(code));
    }

    private static void kindsAndPayloads() {
        TestKit.sentence("VALUES (kind, payload): UNDEFINED 0, NULL 1, BOOL 2 (0 or 1), NUM 3 (an int, arithmetic wraps), OBJ 4, ERR 5 (a code).");
        long step = 4294967296L;
        gives("undefined", 0);
        gives("null", step);
        gives("false", 2 * step);
        gives("true", 2 * step + 1);
        gives("0", 3 * step);
        gives("1", 3 * step + 1);
        gives("2147483647", 3 * step + 2147483647L);
        gives("m", 3 * step + 2147483648L);
        gives("-1", 3 * step + 4294967295L);
        gives("o", 4 * step);
        gives("f", 4 * step + 1);
        gives("e", 5 * step + 2);
    }

    private static void wrapAround() {
        TestKit.sentence("NUM 3 (an int, arithmetic wraps)");
        gives("2147483646 + 1", TestKit.num(MAX));
        gives("2147483647 + 1", TestKit.num(MIN));
        gives("m + m", TestKit.num(0));
        gives("-2147483647 - 1", TestKit.num(MIN));
        gives("m - 1", TestKit.num(MAX));
        gives("46341 * 46341", TestKit.num(46341 * 46341));
        gives("65536 * 32768", TestKit.num(MIN));
        gives("65536 * 65536", TestKit.num(0));
        gives("2147483647 * 2147483647", TestKit.num(1));
        gives("m * -1", TestKit.num(MIN));
        gives("-m", TestKit.num(MIN));
        gives("~2147483647", TestKit.num(MIN));
        gives("~m", TestKit.num(MAX));
        TestKit.leaves("r = 2147483647; r += 1", TestKit.num(MIN));
        TestKit.leaves("r = -2147483647; r -= 2", TestKit.num(MAX));
        TestKit.leaves("r = 65536; r *= 65536", TestKit.num(0));
    }

    private static void theSevenErrors() {
        TestKit.sentence("Errors thrown by the engine: ERR 1 wrong type, 2 absent global, 3 out of room or too deep, 4 division by zero, "
            + "5 no host method fits, 6 several host methods fit equally, 7 thrown by a host method.");
        TestKit.throwsValue("1.a", TestKit.err(1));
        TestKit.throwsValue("a", TestKit.err(2));
        TestKit.throwsValue("while (true) o = {}", TestKit.err(3));
        TestKit.throwsValue("function f() { f() } f()", TestKit.err(3));
        TestKit.throwsValue("1 / 0", TestKit.err(4));
        TestKit.throwsValue("host.m()", TestKit.err(5));
        BridgedScriptEngine engine = new BridgedScriptEngine();
        engine.overload(12, 5, 6, 0);
        engine.overload(12, 6, 5, 0);
        engine.overload(13, 0, 0, 3);
        TestKit.feed(engine, "try { host.m(1, 2) } catch (a) { } try { host.n() } catch (b) { }");
        TestKit.due("load", engine.load(), TestKit.OK);
        TestKit.due("run", engine.run(), TestKit.DONE);
        TestKit.due("several", engine.global(0), TestKit.err(6));
        TestKit.due("thrown", engine.global(1), TestKit.err(7));
    }

    private static void truth() {
        TestKit.sentence("TRUTH: undefined, null, false and NUM 0 are false, everything else is true.");
        for (String value : new String[] {"undefined", "null", "false", "0", "-0", "m + m"}) {
            hasTruth(value, false);
        }
        for (String value : new String[] {"true", "1", "-1", "m", "2147483647", "65536 * 32768", "o", "f", "{}", "function () { }", "e"}) {
            hasTruth(value, true);
        }
    }

    private static void hasTruth(String value, boolean truth) {
        gives("!(" + value + ")", TestKit.bool(!truth));
        gives("(" + value + ") ? 1 : 2", TestKit.num(truth ? 1 : 2));
        gives("(" + value + ") && 7 === 7", truth ? TestKit.bool(true) : valueOf(value));
        gives("(" + value + ") || 7", truth ? valueOf(value) : TestKit.num(7));
        TestKit.leaves(MAKE + "var r = 2; if (" + value + ") r = 1", TestKit.num(truth ? 1 : 2));
        TestKit.leaves(MAKE + "var r = 2; while (" + value + ") { r = 1; break }", TestKit.num(truth ? 1 : 2));
    }

    private static long valueOf(String expression) {
        return TestKit.global(TestKit.ran(MAKE + "var r = " + expression), 'r');
    }

    private static void toInt() {
        TestKit.sentence("TOINT: undefined and null 0, BOOL its payload, NUM itself, ERR its code; OBJ throws ERR 1.");
        String[] values = {"undefined", "null", "false", "true", "0", "2147483647", "m", "-1", "e"};
        int[] ints = {0, 0, 0, 1, 0, MAX, MIN, -1, 2};
        for (int i = 0; i < values.length; i++) {
            String v = values[i];
            int n = ints[i];
            gives(v + " | 0", TestKit.num(n));
            gives("6 ^ " + v, TestKit.num(6 ^ n));
            gives(v + " & 7", TestKit.num(n & 7));
            gives(v + " << 1", TestKit.num(n << 1));
            gives("9 << " + v, TestKit.num(9 << n));
            gives("-9 >> " + v, TestKit.num(-9 >> n));
            gives("-9 >>> " + v, TestKit.num(-9 >>> n));
            gives("3 + " + v, TestKit.num(3 + n));
            gives(v + " - 3", TestKit.num(n - 3));
            gives(v + " * 5", TestKit.num(n * 5));
            gives(v + " / 2", TestKit.num(n / 2));
            gives(v + " % 2", TestKit.num(n % 2));
            gives("-" + (v.equals("-1") ? "(-1)" : v), TestKit.num(-n));
            gives("~" + v, TestKit.num(~n));
            gives(v + " < 1", TestKit.bool(n < 1));
            gives(v + " > 1", TestKit.bool(n > 1));
            gives("1 <= " + v, TestKit.bool(1 <= n));
            gives("1 >= " + v, TestKit.bool(1 >= n));
            TestKit.leaves(MAKE + "var r = " + v + "; r += 1", TestKit.num(n + 1));
        }
    }

    private static void toIntOfObjects() {
        TestKit.sentence("OBJ throws ERR 1.");
        for (int kind = 18; kind <= 36; kind++) {
            String sign = " " + TestKit.TEXTS[kind] + " ";
            if (kind >= 21 && kind <= 24) {
                continue;
            }
            fails("o" + sign + "1", 1);
            fails("1" + sign + "o", 1);
            fails("f" + sign + "1", 1);
            fails("o" + sign + "o", 1);
            fails("o" + sign + "0", 1);
            fails("0" + sign + "f", 1);
        }
        fails("-o", 1);
        fails("~f", 1);
        for (String sign : new String[] {"+=", "-=", "*=", "&="}) {
            TestKit.throwsValue("r = {}; r " + sign + " 1", TestKit.err(1));
            TestKit.throwsValue("r = 1; r " + sign + " {}", TestKit.err(1));
        }
        gives("!o", TestKit.bool(false));
    }

    private static void decidingOperands() {
        TestKit.sentence("&& and || answer the deciding operand's value and don't evaluate the right one without need; ! answers a BOOL.");
        String[] falses = {"undefined", "null", "false", "0"};
        String[] trues = {"true", "5", "o", "f", "e"};
        for (String value : falses) {
            gives(value + " && z", valueOf(value));
            gives(value + " || o", TestKit.obj(0));
            for (String other : falses) {
                gives(value + " || " + other, valueOf(other));
            }
            fails(value + " || z", 2);
        }
        for (String value : trues) {
            gives(value + " || z", valueOf(value));
            for (String other : falses) {
                gives(value + " && " + other, valueOf(other));
            }
            fails(value + " && z", 2);
        }
        gives("3 + (0 || 4)", TestKit.num(7));
        gives("3 + (1 && 4)", TestKit.num(7));
        gives("3 + (5 || 4) + (0 && 9)", TestKit.num(8));
        gives("(function (a, b) { return a * 10 + b })(0 || 1, 3 && 2)", TestKit.num(12));
        gives("!5", TestKit.bool(false));
        gives("!undefined", TestKit.bool(true));
    }

    private static void bothOperandsFirst() {
        TestKit.sentence("| ^ & << >> >>> + - * / % unary - and ~ answer a NUM from the operands' TOINT; both operands are evaluated first.");
        for (int kind = 18; kind <= 36; kind++) {
            if (kind >= 21 && kind <= 28) {
                continue;
            }
            String sign = " " + TestKit.TEXTS[kind] + " ";
            BridgedScriptEngine engine = TestKit.loaded("(a = {})" + sign + "(b = 1)");
            TestKit.due("run of" + sign, engine.run(), TestKit.THROWN);
            TestKit.due("the left one of" + sign, TestKit.global(engine, 'a'), TestKit.obj(0));
            TestKit.due("the right one of" + sign, TestKit.global(engine, 'b'), TestKit.num(1));
            TestKit.throwsValue("({})" + sign + "z", TestKit.err(2));
            TestKit.throwsValue("z" + sign + "(1 / 0)", TestKit.err(2));
            TestKit.due("the kind of true" + sign + "true", valueOf("true" + sign + "true") >> 32, 3);
        }
        gives("-true", TestKit.num(-1));
        gives("~true", TestKit.num(-2));
        TestKit.throwsValue("1 / 0 + z", TestKit.err(4));
        TestKit.throwsValue("({}) / 0", TestKit.err(1));
        TestKit.throwsValue("(a = 1) / (a = 0)", TestKit.err(4));
    }

    private static void shifts() {
        TestKit.sentence("Shifts by the low five bits, >>> without sign (the 32 bits read as an int)");
        String[] amounts = {"0", "1", "31", "32", "33", "63", "64", "-1", "-31", "-32", "-33", "2147483647", "m"};
        int[] ints = {0, 1, 31, 32, 33, 63, 64, -1, -31, -32, -33, MAX, MIN};
        for (int i = 0; i < amounts.length; i++) {
            int low = ints[i] & 31;
            gives("-5 << " + amounts[i], TestKit.num(-5 << low));
            gives("-5 >> " + amounts[i], TestKit.num(-5 >> low));
            gives("-5 >>> " + amounts[i], TestKit.num(-5 >>> low));
            gives("5 >>> " + amounts[i], TestKit.num(5 >>> low));
        }
        gives("-1 >>> 0", TestKit.num(-1));
        gives("-1 >>> 32", TestKit.num(-1));
        gives("-1 >>> 1", TestKit.num(MAX));
        gives("-1 >>> 31", TestKit.num(1));
        gives("-1 >> 31", TestKit.num(-1));
        gives("1 << 31", TestKit.num(MIN));
    }

    private static void divisions() {
        TestKit.sentence("/ and % by 0 throw ERR 4, / cuts off towards zero.");
        for (String zero : new String[] {"0", "false", "null", "undefined", "(m + m)"}) {
            fails("1 / " + zero, 4);
            fails("1 % " + zero, 4);
            fails("0 / " + zero, 4);
            fails("m % " + zero, 4);
        }
        gives("0 / 1", TestKit.num(0));
        gives("0 % 1", TestKit.num(0));
        gives("1 / 2", TestKit.num(0));
        gives("-1 / 2", TestKit.num(0));
        gives("1 / -2", TestKit.num(0));
        gives("7 / 2", TestKit.num(3));
        gives("-7 / 2", TestKit.num(-3));
        gives("7 / -2", TestKit.num(-3));
        gives("-7 / -2", TestKit.num(3));
        gives("m / 2147483647", TestKit.num(-1));
        gives("m / -1", TestKit.num(MIN));
        gives("m % -1", TestKit.num(0));
        gives("m / 1", TestKit.num(MIN));
        gives("m / m", TestKit.num(1));
        gives("7 / true", TestKit.num(7));
        gives("7 / e", TestKit.num(3));
    }

    private static void comparisons() {
        TestKit.sentence("< > <= >= compare the TOINTs and answer a BOOL.");
        String[] values = {"m", "-1", "undefined", "null", "false", "0", "true", "1", "e", "2", "2147483647"};
        int[] ints = {MIN, -1, 0, 0, 0, 0, 1, 1, 2, 2, MAX};
        for (int i = 0; i < values.length; i++) {
            for (int j = 0; j < values.length; j++) {
                BridgedScriptEngine engine = TestKit.ran(MAKE + "var a = " + values[i] + "; var b = " + values[j]
                    + "; g = a < b; h = a > b; i = a <= b; j = a >= b");
                String pair = values[i] + " and " + values[j];
                TestKit.due("< of " + pair, TestKit.global(engine, 'g'), TestKit.bool(ints[i] < ints[j]));
                TestKit.due("> of " + pair, TestKit.global(engine, 'h'), TestKit.bool(ints[i] > ints[j]));
                TestKit.due("<= of " + pair, TestKit.global(engine, 'i'), TestKit.bool(ints[i] <= ints[j]));
                TestKit.due(">= of " + pair, TestKit.global(engine, 'j'), TestKit.bool(ints[i] >= ints[j]));
            }
        }
        for (String sign : new String[] {"<", ">", "<=", ">="}) {
            BridgedScriptEngine engine = TestKit.loaded("({}) " + sign + " (b = 1)");
            TestKit.due("run", engine.run(), TestKit.THROWN);
            TestKit.due("both are evaluated first", TestKit.global(engine, 'b'), TestKit.num(1));
        }
    }

    private static void strictEquality() {
        TestKit.sentence("=== : same kind and same payload (for OBJ: the very same object).");
        String[] values = {"undefined", "null", "false", "true", "0", "1", "2", "m", "o", "p", "f", "e", "d"};
        for (int i = 0; i < values.length; i++) {
            for (int j = 0; j < values.length; j++) {
                equals(values[i], "===", values[j], i == j);
                equals(values[i], "!==", values[j], i != j);
            }
        }
        equals("o", "===", "q", true);
        equals("{}", "===", "{}", false);
        equals("function () { }", "===", "function () { }", false);
    }

    private static void equals(String left, String sign, String right, boolean due) {
        TestKit.leaves(MAKE + "var p = {}; var q = o; try { 1 / 0 } catch (d) { } var r = " + left + " " + sign + " " + right, TestKit.bool(due));
    }

    private static void looseEquality() {
        TestKit.sentence("== : as === where both kinds are equal; undefined == null; BOOL and NUM compare their payloads; every other mixture is unequal. "
            + "!= and !== are their negations.");
        String[] values = {"undefined", "null", "false", "true", "0", "1", "2", "-1", "o", "p", "f", "e", "d"};
        int[] groups = {1, 1, 2, 3, 2, 3, 4, 5, 6, 7, 8, 9, 10};
        for (int i = 0; i < values.length; i++) {
            for (int j = 0; j < values.length; j++) {
                equals(values[i], "==", values[j], groups[i] == groups[j]);
                equals(values[i], "!=", values[j], groups[i] != groups[j]);
            }
        }
        equals("o", "==", "q", true);
        equals("{}", "==", "{}", false);
        equals("e", "==", "2", false);
        equals("undefined", "==", "false", false);
        equals("null", "==", "0", false);
    }

    private static void conditions() {
        TestKit.sentence("? : evaluates the condition and then one of the two. ( assign ) is the value inside.");
        TestKit.leaves("r = 1 ? 2 : z", TestKit.num(2));
        TestKit.leaves("r = 0 ? z : 3", TestKit.num(3));
        TestKit.leaves("r = (a = 0) ? z : a", TestKit.num(0));
        TestKit.throwsValue("1 ? z : 3", TestKit.err(2));
        TestKit.throwsValue("z ? 1 / 0 : 1 / 0", TestKit.err(2));
        TestKit.leaves("r = (((4)))", TestKit.num(4));
        TestKit.leaves("r = (a = 5) + a", TestKit.num(10));
    }
}
