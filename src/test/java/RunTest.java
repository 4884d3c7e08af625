/** Promise 7 and the meaning of names, operators, statements and errors. */
public final class RunTest {
    private static final long UNDEFINED = TestKit.UNDEFINED;
    private static final long NULL = TestKit.NULL;

    public static void main(String[] args) {
        answersOfRun();
        newWorlds();
        literals();
        truth();
        arithmetic();
        bitsAndShifts();
        comparisons();
        equality();
        shortCircuits();
        priorities();
        names();
        assignments();
        conditionals();
        loops();
        lineEnds();
        tries();
        TestKit.end();
    }

    private static void answersOfRun() {
        BridgedScriptEngine engine = TestKit.ran("a = 1; 5");
        TestKit.due("result of a program that ends", engine.result(), UNDEFINED);
        TestKit.throwsValue("throw 7", TestKit.num(7));
        TestKit.throwsValue("throw undefined", UNDEFINED);
        TestKit.throwsValue("throw {a : 1}", TestKit.obj(1));
        TestKit.throwsValue("throw function () {}", TestKit.fun(0));
        TestKit.throwsValue("a", TestKit.err(2));
        TestKit.stops("while (true) ;");
        BridgedScriptEngine thrown = TestKit.loaded("a = 1; throw a; a = 2");
        TestKit.due("run", thrown.run(), TestKit.THROWN);
        TestKit.due("what was done stays", TestKit.global(thrown, 'a'), TestKit.num(1));
        TestKit.due("run", thrown.run(), TestKit.THROWN);
        BridgedScriptEngine stopped = TestKit.loaded("a = 0; try { while (true) a += 1 } catch (b) { c = 1 } d = 1");
        TestKit.due("run", stopped.run(), TestKit.STOPPED);
        TestKit.due("64 rounds", TestKit.global(stopped, 'a'), TestKit.num(64));
        TestKit.due("no catch", TestKit.global(stopped, 'c'), TestKit.ABSENT);
        TestKit.due("nothing after it", TestKit.global(stopped, 'd'), TestKit.ABSENT);
        BridgedScriptEngine afterThrow = TestKit.loaded("function f() { throw 3 } while (true) ;");
        TestKit.due("run", afterThrow.run(), TestKit.STOPPED);
        TestKit.due("call", afterThrow.call(5, 0, 0), TestKit.THROWN);
        TestKit.due("run", afterThrow.run(), TestKit.STOPPED);
        TestKit.due("a stop leaves UNDEFINED", afterThrow.result(), UNDEFINED);
    }

    private static void newWorlds() {
        BridgedScriptEngine engine = new BridgedScriptEngine();
        engine.overload(7, 0, 0, 2);
        TestKit.feed(engine, "b = a; a = 1; c = host.h(); function f() { d = 1 } var a");
        TestKit.due("load", engine.load(), TestKit.OK);
        for (int i = 0; i < 3; i++) {
            TestKit.due("run", engine.run(), TestKit.DONE);
            TestKit.due("own names begin undefined", TestKit.global(engine, 'b'), UNDEFINED);
            TestKit.due("the host memory begins at 0", TestKit.global(engine, 'c'), TestKit.num(1));
            TestKit.due("one host call", engine.traceCount(), 1);
            TestKit.due("other names are absent", TestKit.global(engine, 'd'), TestKit.ABSENT);
            TestKit.due("call", engine.call(5, 0, 0), TestKit.DONE);
            TestKit.due("made by the call", TestKit.global(engine, 'd'), TestKit.num(1));
        }
        engine.wipe();
        TestKit.due("run", engine.run(), TestKit.NOT_LOADED);
        TestKit.due("nothing changes", TestKit.global(engine, 'd'), TestKit.num(1));
    }

    private static void literals() {
        TestKit.yields("12", TestKit.num(12));
        TestKit.yields("true", TestKit.bool(true));
        TestKit.yields("false", TestKit.bool(false));
        TestKit.yields("null", NULL);
        TestKit.yields("undefined", UNDEFINED);
        TestKit.yields("(3)", TestKit.num(3));
        TestKit.yields("{}", TestKit.obj(0));
        TestKit.yields("{a : 1, b : 2}", TestKit.obj(2));
        TestKit.yields("{a : 1, a : 2}", TestKit.obj(1));
        TestKit.yields("{a : 1, a : 2}.a", TestKit.num(2));
        TestKit.yields("function () {}", TestKit.fun(0));
    }

    private static void truth() {
        String[] values = {"undefined", "null", "false", "0", "true", "1", "-1", "{}", "function () {}", "e"};
        for (int i = 0; i < values.length; i++) {
            boolean isTrue = i >= 4;
            String make = "try { z } catch (e) {} ";
            TestKit.leaves(make + "var r = !" + values[i], TestKit.bool(!isTrue));
            TestKit.leaves(make + "var r = " + values[i] + " ? 1 : 2", TestKit.num(isTrue ? 1 : 2));
            TestKit.leaves(make + "var r = 2; if (" + values[i] + ") r = 1", TestKit.num(isTrue ? 1 : 2));
            TestKit.leaves(make + "var r = 2; while (" + values[i] + ") { r = 1; break }", TestKit.num(isTrue ? 1 : 2));
        }
    }

    private static void arithmetic() {
        TestKit.yields("1 + 2", TestKit.num(3));
        TestKit.yields("2147483647 + 1", TestKit.num(Integer.MIN_VALUE));
        TestKit.yields("-2147483647 - 2", TestKit.num(Integer.MAX_VALUE));
        TestKit.yields("65536 * 65536", TestKit.num(0));
        TestKit.yields("2147483647 * 2", TestKit.num(-2));
        TestKit.yields("7 / 2", TestKit.num(3));
        TestKit.yields("-7 / 2", TestKit.num(-3));
        TestKit.yields("7 % -3", TestKit.num(1));
        TestKit.yields("-7 % 3", TestKit.num(-1));
        TestKit.yields("(-2147483647 - 1) / -1", TestKit.num(Integer.MIN_VALUE));
        TestKit.yields("(-2147483647 - 1) % -1", TestKit.num(0));
        TestKit.yields("-(-2147483647 - 1)", TestKit.num(Integer.MIN_VALUE));
        TestKit.yields("-true", TestKit.num(-1));
        TestKit.yields("-undefined", TestKit.num(0));
        TestKit.yields("true + true", TestKit.num(2));
        TestKit.yields("null + undefined", TestKit.num(0));
        TestKit.leaves("try { z } catch (e) { r = e * 10 - -e }", TestKit.num(22));
        TestKit.throwsValue("1 / 0", TestKit.err(4));
        TestKit.throwsValue("1 % 0", TestKit.err(4));
        TestKit.throwsValue("1 / null", TestKit.err(4));
        TestKit.throwsValue("0 / false", TestKit.err(4));
        for (int kind = 18; kind <= 36; kind++) {
            if (kind >= 21 && kind <= 24) {
                continue;
            }
            String sign = " " + TestKit.TEXTS[kind] + " ";
            TestKit.throwsValue("({})" + sign + "0", TestKit.err(1));
            TestKit.throwsValue("0" + sign + "{}", TestKit.err(1));
            BridgedScriptEngine both = TestKit.loaded("({})" + sign + "(a = 1)");
            TestKit.due("run", both.run(), TestKit.THROWN);
            TestKit.due("both operands are evaluated first", TestKit.global(both, 'a'), TestKit.num(1));
        }
        TestKit.throwsValue("-{}", TestKit.err(1));
        TestKit.throwsValue("~function () {}", TestKit.err(1));
    }

    private static void bitsAndShifts() {
        TestKit.yields("12 | 10", TestKit.num(14));
        TestKit.yields("12 ^ 10", TestKit.num(6));
        TestKit.yields("12 & 10", TestKit.num(8));
        TestKit.yields("~5", TestKit.num(-6));
        TestKit.yields("~undefined", TestKit.num(-1));
        TestKit.yields("1 << 31", TestKit.num(Integer.MIN_VALUE));
        TestKit.yields("1 << 32", TestKit.num(1));
        TestKit.yields("1 << 33", TestKit.num(2));
        TestKit.yields("1 << -1", TestKit.num(Integer.MIN_VALUE));
        TestKit.yields("-8 >> 1", TestKit.num(-4));
        TestKit.yields("-8 >> 33", TestKit.num(-4));
        TestKit.yields("-8 >>> 1", TestKit.num(0x7FFFFFFC));
        TestKit.yields("-1 >>> 0", TestKit.num(-1));
        TestKit.yields("-1 >>> 32", TestKit.num(-1));
        TestKit.yields("true | 6", TestKit.num(7));
        TestKit.yields("null << true", TestKit.num(0));
    }

    private static void comparisons() {
        String[] signs = {"<", ">", "<=", ">="};
        boolean[][] due = {{true, false, false}, {false, false, true}, {true, true, false}, {false, true, true}};
        for (int i = 0; i < signs.length; i++) {
            TestKit.yields("1 " + signs[i] + " 2", TestKit.bool(due[i][0]));
            TestKit.yields("2 " + signs[i] + " 2", TestKit.bool(due[i][1]));
            TestKit.yields("3 " + signs[i] + " 2", TestKit.bool(due[i][2]));
            TestKit.yields("-2147483647 " + signs[i] + " 2147483647", TestKit.bool(due[i][0]));
            TestKit.yields("undefined " + signs[i] + " true", TestKit.bool(due[i][0]));
            TestKit.yields("null " + signs[i] + " false", TestKit.bool(due[i][1]));
            TestKit.leaves("try { z } catch (e) { r = e " + signs[i] + " 1 }", TestKit.bool(due[i][2]));
        }
    }

    private static void equality() {
        String[] values = {"undefined", "null", "false", "true", "0", "1", "2", "o", "p", "e", "d"};
        int count = values.length;
        String make = "var o = {}; var p = {}; try { z } catch (e) {} try { 1 / 0 } catch (d) {} ";
        for (int i = 0; i < count; i++) {
            for (int j = 0; j < count; j++) {
                boolean strict = i == j;
                boolean nothings = i <= 1 && j <= 1;
                boolean zeros = (i == 2 || i == 4) && (j == 2 || j == 4);
                boolean ones = (i == 3 || i == 5) && (j == 3 || j == 5);
                boolean loose = strict || nothings || zeros || ones;
                String pair = values[i] + " ~ " + values[j];
                TestKit.leaves(make + "var r = " + pair.replace("~", "==="), TestKit.bool(strict));
                TestKit.leaves(make + "var r = " + pair.replace("~", "!=="), TestKit.bool(!strict));
                TestKit.leaves(make + "var r = " + pair.replace("~", "=="), TestKit.bool(loose));
                TestKit.leaves(make + "var r = " + pair.replace("~", "!="), TestKit.bool(!loose));
            }
        }
        TestKit.leaves("var o = {}; var p = o; var r = o === p", TestKit.bool(true));
        TestKit.yields("true == 2", TestKit.bool(false));
        TestKit.yields("-1 == -1", TestKit.bool(true));
        TestKit.leaves("function f() {} var r = f == f", TestKit.bool(true));
        TestKit.leaves("try { z } catch (a) {} try { z } catch (b) {} r = a === b", TestKit.bool(true));
    }

    private static void shortCircuits() {
        TestKit.yields("0 || 5", TestKit.num(5));
        TestKit.yields("3 || z", TestKit.num(3));
        TestKit.yields("0 && z", TestKit.num(0));
        TestKit.yields("3 && 5", TestKit.num(5));
        TestKit.yields("null || undefined", UNDEFINED);
        TestKit.yields("undefined || null", NULL);
        TestKit.yields("null && z || 7", TestKit.num(7));
        TestKit.yields("1 || z && z", TestKit.num(1));
        TestKit.yields("{} && {a : 1}", TestKit.obj(1));
        TestKit.yields("0 || 0 || false || 4 || z", TestKit.num(4));
        TestKit.yields("1 && 2 && null && z", NULL);
        TestKit.throwsValue("1 && z", TestKit.err(2));
        TestKit.throwsValue("0 || z", TestKit.err(2));
    }

    private static void priorities() {
        TestKit.yields("1 + 2 * 3", TestKit.num(7));
        TestKit.yields("(1 + 2) * 3", TestKit.num(9));
        TestKit.yields("10 - 4 - 3", TestKit.num(3));
        TestKit.yields("100 / 5 / 2", TestKit.num(10));
        TestKit.yields("100 / 5 * 2 % 7", TestKit.num(5));
        TestKit.yields("1 << 2 + 1", TestKit.num(8));
        TestKit.yields("256 >> 2 >> 1", TestKit.num(32));
        TestKit.yields("1 < 2 << 3", TestKit.bool(true));
        TestKit.yields("3 > 2 > 1", TestKit.bool(false));
        TestKit.yields("1 < 2 == 3 < 4", TestKit.bool(true));
        TestKit.yields("2 == 2 == 1", TestKit.bool(true));
        TestKit.yields("6 & 3 == 3", TestKit.num(0));
        TestKit.yields("7 ^ 3 & 5", TestKit.num(6));
        TestKit.yields("8 | 3 ^ 2", TestKit.num(9));
        TestKit.yields("0 && 1 | 2", TestKit.num(0));
        TestKit.yields("1 || 0 && 0", TestKit.num(1));
        TestKit.yields("-2 + 5", TestKit.num(3));
        TestKit.yields("!0 + 1", TestKit.num(2));
        TestKit.yields("-~!0", TestKit.num(2));
        TestKit.yields("!{a : 0}.a", TestKit.bool(true));
        TestKit.yields("1 ? 2 : 3 ? 4 : 5", TestKit.num(2));
        TestKit.yields("0 ? 2 : 0 ? 4 : 5", TestKit.num(5));
        TestKit.yields("1 || 0 ? 2 : 3", TestKit.num(2));
        TestKit.yields("1 ? 0 ? 4 : 5 : 6", TestKit.num(5));
    }

    private static void names() {
        TestKit.throwsValue("z", TestKit.err(2));
        TestKit.throwsValue("z.a", TestKit.err(2));
        TestKit.throwsValue("z.a = y", TestKit.err(2));
        TestKit.throwsValue("z()", TestKit.err(2));
        TestKit.throwsValue("z += 1", TestKit.err(2));
        TestKit.leaves("z = 1; r = z", TestKit.num(1));
        TestKit.leaves("r = z; var z = 1", UNDEFINED);
        TestKit.leaves("if (false) { var z } r = z", UNDEFINED);
        TestKit.leaves("r = 4; var r", TestKit.num(4));
        TestKit.leaves("r = f; function f() {}", TestKit.fun(0));
        TestKit.leaves("function r() {} var r", TestKit.fun(0));
        TestKit.leaves("function r() {} var r = 3", TestKit.num(3));
        TestKit.leaves("function f() { return 1 } function f() { return 2 } r = f()", TestKit.num(2));
        BridgedScriptEngine engine = TestKit.ran("if (false) { var a = 1; try {} catch (b) {} c = 2 }");
        TestKit.due("a", TestKit.global(engine, 'a'), UNDEFINED);
        TestKit.due("b", TestKit.global(engine, 'b'), UNDEFINED);
        TestKit.due("c", TestKit.global(engine, 'c'), TestKit.ABSENT);
    }

    private static void assignments() {
        TestKit.leaves("r = a = 3", TestKit.num(3));
        TestKit.leaves("a = 10; r = a += 5", TestKit.num(15));
        TestKit.leaves("a = 10; a -= 15; r = a", TestKit.num(-5));
        TestKit.leaves("a = 10; a *= a; r = a", TestKit.num(100));
        TestKit.leaves("a = 14; a &= 7; r = a", TestKit.num(6));
        TestKit.leaves("a = true; r = a += true", TestKit.num(2));
        TestKit.leaves("var a; a += 4; r = a", TestKit.num(4));
        TestKit.leaves("a = 1; a += a = 5; r = a", TestKit.num(6));
        TestKit.leaves("a = 1; a += (a += 1) + (a += 1); r = a", TestKit.num(6));
        TestKit.leaves("a = 7; r = a -= a *= 2", TestKit.num(-7));
        TestKit.throwsValue("a = {}; a += 1", TestKit.err(1));
        TestKit.throwsValue("a = 1; a += {}", TestKit.err(1));
        BridgedScriptEngine engine = TestKit.loaded("a = {}; a += (b = 1)");
        TestKit.due("run", engine.run(), TestKit.THROWN);
        TestKit.due("the right side is evaluated before the NUM is computed", TestKit.global(engine, 'b'), TestKit.num(1));
        BridgedScriptEngine absent = TestKit.loaded("a += (b = 1)");
        TestKit.due("run", absent.run(), TestKit.THROWN);
        TestKit.due("the old value is read first", TestKit.global(absent, 'b'), TestKit.ABSENT);
        TestKit.due("a is not created", TestKit.global(absent, 'a'), TestKit.ABSENT);
        BridgedScriptEngine failed = TestKit.loaded("a = 1 / 0");
        TestKit.due("run", failed.run(), TestKit.THROWN);
        TestKit.due("a is not created", TestKit.global(failed, 'a'), TestKit.ABSENT);
    }

    private static void conditionals() {
        TestKit.leaves("r = 0; if (1) r = 1; else r = 2", TestKit.num(1));
        TestKit.leaves("r = 0; if (0) r = 1; else r = 2", TestKit.num(2));
        TestKit.leaves("r = 0; if (0) r = 1", TestKit.num(0));
        TestKit.leaves("r = 0; if (1) if (0) r = 1; else r = 2", TestKit.num(2));
        TestKit.leaves("r = 0; if (0) if (1) r = 1; else r = 2", TestKit.num(0));
        TestKit.leaves("r = 0; if (0) if (1) r = 1; else r = 2; else r = 3", TestKit.num(3));
        TestKit.leaves("r = 0; if (0) { if (1) r = 1 } else r = 2", TestKit.num(2));
        TestKit.leaves("r = 0; if (0) while (1) if (1) r = 1; else r = 2; else r = 3", TestKit.num(3));
        TestKit.leaves("r = 0; if (0) r = 1; else if (1) r = 2; else r = 3", TestKit.num(2));
        TestKit.leaves("r = 0; 1 ? r = 1 : r = 2", TestKit.num(1));
        TestKit.leaves("r = 0; 0 ? r = 1 : r = 2", TestKit.num(2));
        TestKit.throwsValue("z ? 1 : 2", TestKit.err(2));
    }

    private static void loops() {
        TestKit.leaves("r = 0; while (r < 10) r += 1", TestKit.num(10));
        TestKit.leaves("r = 0; while (true) { r += 1; if (r == 5) break }", TestKit.num(5));
        TestKit.leaves("r = 0; i = 0; while (i < 6) { i += 1; if (i & 1) continue; r += i }", TestKit.num(12));
        TestKit.leaves("r = 0; i = 0; while (i < 3) { j = 0; while (j < 3) { j += 1; if (j == 2) break; r += 1 } i += 1 }",
            TestKit.num(3));
        TestKit.leaves("r = 0; while (true) { while (true) break; r += 1; if (r > 3) break; continue }", TestKit.num(4));
        TestKit.leaves("r = 0; while (r < 63) r += 1", TestKit.num(63));
        TestKit.stops("r = 0; while (r < 64) r += 1");
        TestKit.leaves("r = 0; while (r < 31) r += 1; while (r < 62) r += 1", TestKit.num(62));
        TestKit.stops("r = 0; while (r < 31) r += 1; while (r < 63) r += 1");
        TestKit.leaves("r = 0; while (false) r = 1", TestKit.num(0));
        TestKit.stops("while (z = true) { try { throw 1 } catch (e) {} }");
    }

    private static void lineEnds() {
        TestKit.leaves("a = 5\nr = a\n-3", TestKit.num(2));
        TestKit.leaves("function f(x) { return x * 2 } r = f\n(4)", TestKit.num(8));
        TestKit.leaves("a = 5; r = a\n;-3", TestKit.num(5));
        TestKit.leaves("function f() { return\n5 } r = f()", UNDEFINED);
        TestKit.leaves("function f() { return 5\n+ 6 } r = f()", TestKit.num(11));
        TestKit.leaves("a = 1\nvar r\n= 2", TestKit.num(2));
        TestKit.leaves("r = 1\nvar a\n-r", TestKit.num(1));
        TestKit.leaves("r = 0\nif (0)\nr = 1\nelse\nr = 2", TestKit.num(2));
        TestKit.leaves("r = 0\nwhile (r < 3)\n{\nr += 1\ncontinue\nr = 9\n}", TestKit.num(3));
    }

    private static void tries() {
        TestKit.leaves("try { throw 4 } catch (r) {}", TestKit.num(4));
        TestKit.leaves("try { r = 1; throw 4; r = 2 } catch (e) {}", TestKit.num(1));
        TestKit.leaves("try { r = 1 } catch (e) { r = 2 }", TestKit.num(1));
        TestKit.leaves("try { throw 1 } catch (e) { r = e + 1 } r += 10", TestKit.num(12));
        TestKit.leaves("try { try { throw 1 } catch (e) { throw e + 1 } } catch (e) { r = e }", TestKit.num(2));
        TestKit.leaves("try { try { throw 1 } catch (e) { r = e } r += 5 } catch (f) { r = 9 }", TestKit.num(6));
        TestKit.leaves("try { try { } catch (e) { } throw 3 } catch (f) { r = f }", TestKit.num(3));
        TestKit.throwsValue("try { throw 1 } catch (e) { throw 2 }", TestKit.num(2));
        TestKit.throwsValue("try { } catch (e) { } throw 5", TestKit.num(5));
        TestKit.leaves("function f() { throw 6 } try { f() } catch (r) {}", TestKit.num(6));
        TestKit.leaves("function f() { throw 6 } function g() { f(); r = 1 } try { g() } catch (r) {}", TestKit.num(6));
        TestKit.leaves("function f() { try { throw 1 } catch (e) { return e + 1 } } r = f()", TestKit.num(2));
        TestKit.leaves("function f() { try { return 1 } catch (e) { } } r = 10 + f(); try { throw 5 } catch (e) { r += e }",
            TestKit.num(16));
        TestKit.leaves("r = 0; while (true) { try { break } catch (e) {} } try { throw 1 } catch (e) { r = e }", TestKit.num(1));
        TestKit.throwsValue("while (true) { try { break } catch (e) {} } throw 3", TestKit.num(3));
        TestKit.throwsValue("function f() { try { return 1 } catch (e) { return 2 } } f(); throw 4", TestKit.num(4));
        TestKit.leaves("var r = 0; function f() { try { z } catch (r) { } return r } a = f()", TestKit.num(0));
        TestKit.leaves("function f() { try { z } catch (e) { } return e } r = f()", TestKit.err(2));
        TestKit.throwsValue("try { f = function () { throw 8 } } catch (e) { } f()", TestKit.num(8));
        TestKit.leaves("try { f = function () { throw 8 }; r = 1; f() } catch (r) { }", TestKit.num(8));
        TestKit.leaves("r = 1 + 2 * (function () { try { z(3, 4 + y) } catch (e) { return e } })()", TestKit.num(5));
        TestKit.leaves("i = 0; r = 0; while (i < 4) { i += 1; try { if (i == 2) continue; throw i } catch (e) { r += e } }",
            TestKit.num(8));
    }
}
