/** The edges of the promises 9 to 13, a sentence at a time. */
public final class EdgesOfLooksTest {
    private static final long STEP = 4294967296L;
    private static final int F = TestKit.name('f');
    private static final int O = TestKit.name('o');
    private static final int[] OUTSIDE = {-1, 26, 27, -26, Integer.MIN_VALUE, Integer.MAX_VALUE};

    /** A world with a global of every kind: o has four properties, p one, q none, and s is o. */
    private static final String WORLD = "o = {d : 1, a : null, z : 2, c : undefined}; p = {b : o}; q = {}; s = o; function f() { } f.a = true; function g() { } h = f; "
        + "var u; v = undefined; n = null; m = null; b = true; c = true; i = 5; j = 5; try { y } catch (e) { } try { y } catch (k) { } l = 0";

    public static void main(String[] args) {
        results();
        payloadsOfObjects();
        changedLater();
        globals();
        globalsOutside();
        properties();
        noProperties();
        namesOfProperties();
        noNames();
        sameObjects();
        lookingChangesNothing();
        TestKit.end();
    }

    private static void results() {
        TestKit.sentence("The result: kind * 2^32 + payload (as an unsigned 32-bit number).");
        String[] values = {"undefined", "null", "false", "true", "0", "1", "2147483647", "-1", "-2147483647 - 1"};
        long[] due = {0, STEP, 2 * STEP, 2 * STEP + 1, 3 * STEP, 3 * STEP + 1, 3 * STEP + 2147483647L, 3 * STEP + 4294967295L, 3 * STEP + 2147483648L};
        for (int i = 0; i < values.length; i++) {
            TestKit.throwsValue("throw " + values[i], due[i]);
            BridgedScriptEngine engine = TestKit.ran("function f() { return " + values[i] + " }");
            TestKit.due("call", engine.call(F, 0, 0), TestKit.DONE);
            TestKit.due("result " + values[i], engine.result(), due[i]);
        }
        String[] errors = {"1.a", "z", "while (true) o = {}", "1 / 0", "host.m()"};
        for (int i = 0; i < errors.length; i++) {
            TestKit.throwsValue(errors[i], 5 * STEP + i + 1);
        }
    }

    private static void payloadsOfObjects() {
        TestKit.sentence("Payload of OBJ here: 2 * number of properties now, + 1 if it is a function.");
        String[] fills = {"", "o.a = 1;", "o.a = 1; o.b = 2;", "o.a = 1; o.b = 2; o.c = 3;", "o.a = 1; o.b = 2; o.c = 3; o.d = 4;"};
        for (int count = 0; count <= 4; count++) {
            TestKit.throwsValue("o = {}; " + fills[count] + " throw o", 4 * STEP + 2 * count);
            TestKit.throwsValue("function o() { } " + fills[count] + " throw o", 4 * STEP + 2 * count + 1);
            TestKit.throwsValue("o = function () { }; " + fills[count] + " throw o", 4 * STEP + 2 * count + 1);
        }
    }

    private static void changedLater() {
        TestKit.sentence("2 * number of properties now");
        BridgedScriptEngine engine = TestKit.loaded("o = {}; function f(a) { o.p = a; while (a) ; } throw o");
        TestKit.due("run", engine.run(), TestKit.THROWN);
        TestKit.due("no property", engine.result(), 4 * STEP);
        BridgedScriptEngine self = TestKit.ran("function f(a) { if (a == 0) return f; if (a == 1) f.p = 1; throw f }");
        TestKit.due("call", self.call(F, 0, 0), TestKit.DONE);
        TestKit.due("a function with none", self.result(), 4 * STEP + 1);
        TestKit.due("call", self.call(F, 1, 0), TestKit.THROWN);
        TestKit.due("a function with one", self.result(), 4 * STEP + 3);
        BridgedScriptEngine shared = TestKit.ran("a = {}; b = {x : a}; function f() { a.p = 1; a.q = 2 }");
        TestKit.due("before", shared.prop(1, 23), 4 * STEP);
        TestKit.due("call", shared.call(F, 0, 0), TestKit.DONE);
        TestKit.due("the same object as a global", shared.global(0), 4 * STEP + 4);
        TestKit.due("and as a property", shared.prop(1, 23), 4 * STEP + 4);
    }

    private static void globals() {
        TestKit.sentence("Global g in the same form");
        BridgedScriptEngine engine = TestKit.ran(WORLD);
        Object[][] due = {{'o', 4 * STEP + 8}, {'p', 4 * STEP + 2}, {'q', 4 * STEP}, {'s', 4 * STEP + 8}, {'f', 4 * STEP + 3}, {'g', 4 * STEP + 1},
            {'h', 4 * STEP + 3}, {'u', 0L}, {'v', 0L}, {'n', STEP}, {'b', 2 * STEP + 1}, {'i', 3 * STEP + 5}, {'e', 5 * STEP + 2}, {'l', 3 * STEP}};
        for (Object[] row : due) {
            TestKit.due("global " + row[0], TestKit.global(engine, (Character) row[0]), (Long) row[1]);
        }
    }

    private static void globalsOutside() {
        TestKit.sentence("6 * 2^32 (ABSENT) if it is absent or g outside 0..25.");
        BridgedScriptEngine engine = TestKit.ran("a = 1; z = 2; if (0) { x = 3 } function f(b) { var c = 1; return b } f(4)");
        TestKit.due("global 0", engine.global(0), TestKit.num(1));
        TestKit.due("global 25", engine.global(25), TestKit.num(2));
        for (int g : OUTSIDE) {
            TestKit.due("global " + g, engine.global(g), 6 * STEP);
        }
        TestKit.due("never assigned", engine.global(23), 6 * STEP);
        TestKit.due("a parameter", engine.global(1), 6 * STEP);
        TestKit.due("a var of a function", engine.global(2), 6 * STEP);
        TestKit.due("without a run", TestKit.loaded("var a").global(0), 6 * STEP);
        TestKit.sentence("ABSENT 6 is no value; it is answered where there is nothing.");
        TestKit.due("an undefined global is there", TestKit.ran("var a").global(0), 0);
        TestKit.due("an undefined property is there", TestKit.ran("a = {b : undefined}").prop(0, 1), 0);
        TestKit.due("one that was only read is not", TestKit.ran("a = {}; a.b").prop(0, 1), 6 * STEP);
    }

    private static void properties() {
        TestKit.sentence("Property p of the object in global g, same form");
        BridgedScriptEngine engine = TestKit.ran(WORLD);
        TestKit.due("o.d", engine.prop(O, 3), TestKit.num(1));
        TestKit.due("o.a", engine.prop(O, 0), TestKit.NULL);
        TestKit.due("o.z", engine.prop(O, 25), TestKit.num(2));
        TestKit.due("o.c", engine.prop(O, 2), TestKit.UNDEFINED);
        TestKit.due("p.b", engine.prop(TestKit.name('p'), 1), 4 * STEP + 8);
        TestKit.due("f.a", engine.prop(F, 0), TestKit.bool(true));
        TestKit.due("h.a", engine.prop(TestKit.name('h'), 0), TestKit.bool(true));
        TestKit.due("s.d", engine.prop(TestKit.name('s'), 3), TestKit.num(1));
        BridgedScriptEngine ends = TestKit.ran("a = {a : 1}; z = {z : 2}");
        TestKit.due("a.a", ends.prop(0, 0), TestKit.num(1));
        TestKit.due("z.z", ends.prop(25, 25), TestKit.num(2));
    }

    private static void noProperties() {
        TestKit.sentence("ABSENT if global g is no OBJ, or there is no such property.");
        BridgedScriptEngine engine = TestKit.ran(WORLD);
        for (char name : new char[] {'u', 'v', 'n', 'b', 'i', 'l', 'e', 'x'}) {
            TestKit.due("prop of " + name, engine.prop(TestKit.name(name), 0), 6 * STEP);
        }
        for (int outside : OUTSIDE) {
            TestKit.due("prop of " + outside, engine.prop(outside, 0), 6 * STEP);
            TestKit.due("prop " + outside + " of o", engine.prop(O, outside), 6 * STEP);
            TestKit.due("prop " + outside + " of q", engine.prop(TestKit.name('q'), outside), 6 * STEP);
        }
        TestKit.due("o has no b", engine.prop(O, 1), 6 * STEP);
        TestKit.due("q has no a", engine.prop(TestKit.name('q'), 0), 6 * STEP);
        TestKit.due("g has no a", engine.prop(TestKit.name('g'), 0), 6 * STEP);
        TestKit.due("p has no a", engine.prop(TestKit.name('p'), 0), 6 * STEP);
    }

    private static void namesOfProperties() {
        TestKit.sentence("The name of the i-th (0 first) property of the object in global g in the order of adding");
        BridgedScriptEngine engine = TestKit.ran(WORLD + "\no.a = 1; o.d = 2");
        int[] names = {3, 0, 25, 2};
        for (int i = 0; i < names.length; i++) {
            TestKit.due("name " + i + " of o", engine.propName(O, i), names[i]);
            TestKit.due("name " + i + " of s", engine.propName(TestKit.name('s'), i), names[i]);
        }
        TestKit.due("of p", engine.propName(TestKit.name('p'), 0), 1);
        TestKit.due("of f", engine.propName(F, 0), 0);
        BridgedScriptEngine twice = TestKit.ran("o = {b : 1, a : 2, b : 3}; o.c = 4");
        TestKit.due("replaced in its place", twice.propName(O, 0), 1);
        TestKit.due("the second", twice.propName(O, 1), 0);
        TestKit.due("the third", twice.propName(O, 2), 2);
        TestKit.due("no fourth", twice.propName(O, 3), -1);
    }

    private static void noNames() {
        TestKit.sentence("-1 if there is none.");
        BridgedScriptEngine engine = TestKit.ran(WORLD);
        for (int i : new int[] {-1, 4, 5, Integer.MIN_VALUE, Integer.MAX_VALUE}) {
            TestKit.due("name " + i + " of o", engine.propName(O, i), -1);
        }
        for (int i : new int[] {-1, 1, 2, 3, 4}) {
            TestKit.due("name " + i + " of p", engine.propName(TestKit.name('p'), i), -1);
        }
        TestKit.due("of q", engine.propName(TestKit.name('q'), 0), -1);
        TestKit.due("of g", engine.propName(TestKit.name('g'), 0), -1);
        for (char name : new char[] {'u', 'v', 'n', 'b', 'i', 'l', 'e', 'x'}) {
            TestKit.due("name of " + name, engine.propName(TestKit.name(name), 0), -1);
        }
        for (int g : OUTSIDE) {
            TestKit.due("name of " + g, engine.propName(g, 0), -1);
        }
    }

    private static void sameObjects() {
        TestKit.sentence("Whether the globals g and h hold the very same object.");
        BridgedScriptEngine engine = TestKit.ran(WORLD);
        due(engine, 'o', 's', true);
        due(engine, 's', 'o', true);
        due(engine, 'f', 'h', true);
        due(engine, 'o', 'o', true);
        due(engine, 'q', 'q', true);
        due(engine, 'g', 'g', true);
        due(engine, 'o', 'p', false);
        due(engine, 'p', 'q', false);
        due(engine, 'f', 'g', false);
        due(engine, 'o', 'f', false);
        for (String pair : new String[] {"uu", "uv", "nn", "nm", "bb", "bc", "ii", "ij", "ee", "ek", "xx", "xy", "ox", "xo", "oi", "lq", "ql"}) {
            due(engine, pair.charAt(0), pair.charAt(1), false);
        }
        for (int g : OUTSIDE) {
            TestKit.due("same " + g + " " + g, engine.same(g, g), false);
            TestKit.due("same o " + g, engine.same(O, g), false);
            TestKit.due("same " + g + " o", engine.same(g, O), false);
        }
        BridgedScriptEngine ends = TestKit.ran("a = {}; z = a");
        TestKit.due("same 0 25", ends.same(0, 25), true);
    }

    private static void due(BridgedScriptEngine engine, char g, char h, boolean due) {
        TestKit.due("same " + g + " " + h, engine.same(TestKit.name(g), TestKit.name(h)), due);
    }

    private static void lookingChangesNothing() {
        TestKit.sentence("Nothing is promised beyond the answers and state changes described above");
        BridgedScriptEngine engine = TestKit.ran(WORLD);
        TestKit.unchanged("looked at twice", engine, TestKit.seen(engine));
        TestKit.due("still loaded", engine.run(), TestKit.DONE);
    }
}
