/** Promises 9 to 13: result, global, prop, propName and same. */
public final class LookTest {
    private static final int F = TestKit.name('f');

    public static void main(String[] args) {
        results();
        globals();
        properties();
        orderOfProperties();
        sameObjects();
        TestKit.end();
    }

    private static void results() {
        BridgedScriptEngine engine = TestKit.ran("o = {a : 1}; function f(a) { if (a) o.b = a; return o } function g() { o.c = 1; o = 5 } "
            + "function h() { h.a = 1; return h } function n(a) { return a }");
        TestKit.due("call", engine.call(F, 0, 0), TestKit.DONE);
        TestKit.due("an object with one", engine.result(), TestKit.obj(1));
        TestKit.due("call", engine.call(F, 4, 0), TestKit.DONE);
        TestKit.due("an object with two", engine.result(), TestKit.obj(2));
        TestKit.due("call g", engine.call(TestKit.name('g'), 0, 0), TestKit.DONE);
        TestKit.due("undefined", engine.result(), TestKit.UNDEFINED);
        TestKit.due("call h", engine.call(TestKit.name('h'), 0, 0), TestKit.DONE);
        TestKit.due("a function with one", engine.result(), TestKit.fun(1));
        TestKit.due("call n", engine.call(TestKit.name('n'), -1, 0), TestKit.DONE);
        TestKit.due("an unsigned payload", engine.result(), 3L * 4294967296L + 4294967295L);
        TestKit.due("call n", engine.call(TestKit.name('n'), Integer.MIN_VALUE, 0), TestKit.DONE);
        TestKit.due("the least payload", engine.result(), 3L * 4294967296L + 2147483648L);
        BridgedScriptEngine thrown = TestKit.loaded("o = {}; throw o");
        TestKit.due("run", thrown.run(), TestKit.THROWN);
        TestKit.due("thrown", thrown.result(), TestKit.obj(0));
        TestKit.due("asking changes nothing", thrown.result(), TestKit.obj(0));
    }

    private static void globals() {
        BridgedScriptEngine engine = TestKit.ran("var a; b = null; c = true; d = 9; e = {a : 1, b : 2}; function f() { } f.a = 1; "
            + "try { 1 / 0 } catch (g) { } h = -1; z = false");
        long[] due = {TestKit.UNDEFINED, TestKit.NULL, TestKit.bool(true), TestKit.num(9), TestKit.obj(2), TestKit.fun(1),
            TestKit.err(4), 3L * 4294967296L + 4294967295L};
        for (int g = 0; g < due.length; g++) {
            TestKit.due("global " + g, engine.global(g), due[g]);
        }
        TestKit.due("global 25", engine.global(25), TestKit.bool(false));
        for (int g : new int[] {8, 24, -1, 26, Integer.MIN_VALUE, Integer.MAX_VALUE}) {
            TestKit.due("global " + g, engine.global(g), 6L * 4294967296L);
        }
        BridgedScriptEngine own = TestKit.ran("function f(a) { var b = 2; c = a + b } f(1)");
        TestKit.due("a parameter is no global", own.global(0), TestKit.ABSENT);
        TestKit.due("a var of a function is no global", own.global(1), TestKit.ABSENT);
        TestKit.due("c", own.global(2), TestKit.num(3));
    }

    private static void properties() {
        BridgedScriptEngine engine = TestKit.ran("o = {a : undefined, b : null, c : {d : 1}, d : 4}; n = 5; function f() { } f.z = o; "
            + "try { y } catch (e) { }");
        int o = TestKit.name('o');
        TestKit.due("undefined", engine.prop(o, 0), TestKit.UNDEFINED);
        TestKit.due("null", engine.prop(o, 1), TestKit.NULL);
        TestKit.due("an object", engine.prop(o, 2), TestKit.obj(1));
        TestKit.due("a number", engine.prop(o, 3), TestKit.num(4));
        TestKit.due("of a function", engine.prop(F, 25), TestKit.obj(4));
        int[][] none = {{o, 4}, {o, -1}, {o, 26}, {o, Integer.MIN_VALUE}, {TestKit.name('n'), 0}, {TestKit.name('x'), 0},
            {TestKit.name('e'), 0}, {F, 0}, {-1, 0}, {26, 0}, {Integer.MAX_VALUE, Integer.MAX_VALUE}};
        for (int[] pair : none) {
            TestKit.due("prop " + pair[0] + " " + pair[1], engine.prop(pair[0], pair[1]), TestKit.ABSENT);
        }
    }

    private static void orderOfProperties() {
        BridgedScriptEngine engine = TestKit.ran("o = {q : 1, c : 2}; o.a = 3; o.q = 4; o.z = 5; function f() { } n = 1");
        int o = TestKit.name('o');
        int[] due = {16, 2, 0, 25};
        for (int i = 0; i < due.length; i++) {
            TestKit.due("propName " + i, engine.propName(o, i), due[i]);
        }
        TestKit.due("the replaced one", engine.prop(o, 16), TestKit.num(4));
        int[][] none = {{o, 4}, {o, 5}, {o, -1}, {o, Integer.MAX_VALUE}, {o, Integer.MIN_VALUE}, {F, 0}, {TestKit.name('n'), 0},
            {TestKit.name('x'), 0}, {-1, 0}, {26, 0}};
        for (int[] pair : none) {
            TestKit.due("propName " + pair[0] + " " + pair[1], engine.propName(pair[0], pair[1]), -1);
        }
        BridgedScriptEngine again = TestKit.ran("a = {b : 1, c : 2, d : 3, e : 4}");
        again.wipe();
        TestKit.feed(again, "a = {}; b = {z : 1}");
        TestKit.due("load", again.load(), TestKit.OK);
        TestKit.due("no object after load", again.propName(0, 0), -1);
        TestKit.due("run", again.run(), TestKit.DONE);
        TestKit.due("a new object has no old properties", again.propName(0, 0), -1);
        TestKit.due("nor values", again.prop(0, 1), TestKit.ABSENT);
        TestKit.due("its neighbour", again.propName(1, 0), 25);
    }

    private static void sameObjects() {
        String source = "a = {}; b = a; c = {}; d = 1; e = 1; function f() { } g = f; h = null; i = null; var j; var k; l = {p : a}; m = l.p";
        boolean[][] due = new boolean[28][28];
        int[][] pairs = {{0, 1}, {0, 12}, {1, 12}, {5, 6}};
        for (int[] pair : pairs) {
            due[pair[0]][pair[1]] = true;
            due[pair[1]][pair[0]] = true;
        }
        for (int g : new int[] {0, 1, 2, 5, 6, 11, 12}) {
            due[g][g] = true;
        }
        for (int g = -1; g <= 26; g++) {
            BridgedScriptEngine engine = TestKit.ran(source);
            for (int h = -1; h <= 26; h++) {
                boolean want = g >= 0 && h >= 0 && due[g][h];
                TestKit.due("same " + g + " " + h, engine.same(g, h), want);
            }
        }
        TestKit.due("far outside", TestKit.ran(source).same(Integer.MIN_VALUE, Integer.MIN_VALUE), false);
    }
}
