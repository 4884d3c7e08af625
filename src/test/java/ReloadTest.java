/** One object that loads source after source: nothing of an earlier one, taken or refused, is left in a later one. */
public final class ReloadTest {
    private static final String[] SOURCES = {
        "function f(a, b, c) { var d; var e; var g = function () { while (1) { try { (1 + ",
        "function f() { return a } var a = 4; r = f()",
        "a",
        "while (1) { break; } function g() { function h() { return 3 } return h() } r = g()",
        "try { try { while (1) { if (1) { function",
        "break",
        "return",
        "try { throw 5 } catch (e) { r = e } throw 6",
        "function f() { try { z } catch (e) { return e } } r = f()",
        "throw 7",
        "function f(a) { r = a } f(1, 2, 3, 4)",
        "function f() { function g() { function h() { function k",
        "function f() { function g() { return function () { r = 9 } } return g() } f()()",
        "var a; var b; var c; var d; var e; var f; var g; var h",
        "r = a",
        "function x() { var a; var b; var c; var d; var e; var f }",
        ""
    };

    public static void main(String[] args) {
        for (int first = 0; first < SOURCES.length; first++) {
            BridgedScriptEngine engine = new BridgedScriptEngine();
            for (int second = 0; second < 3; second++) {
                String source = SOURCES[(first + second * second * 5) % SOURCES.length];
                comparedWithNew(engine, source);
            }
        }
        countsBeginAnew();
        TestKit.end();
    }

    private static void comparedWithNew(BridgedScriptEngine used, String source) {
        used.wipe();
        TestKit.feed(used, source);
        BridgedScriptEngine fresh = TestKit.fed(source);
        TestKit.due("load of " + source, used.load(), fresh.load());
        TestKit.due("errorAt of " + source, used.errorAt(), fresh.errorAt());
        TestKit.due("run of " + source, used.run(), fresh.run());
        TestKit.due("result of " + source, used.result(), fresh.result());
        for (int g = 0; g < 26; g++) {
            TestKit.due("global " + g + " of " + source, used.global(g), fresh.global(g));
        }
        TestKit.due("call of " + source, used.call(5, 1, 2), fresh.call(5, 1, 2));
        TestKit.due("result of the call of " + source, used.result(), fresh.result());
    }

    private static void countsBeginAnew() {
        String[] parts = {TestKit.times("function a() {}", 6), TestKit.times("while (0) ;", 8), TestKit.times("try {} catch (a) {}", 6),
            "function x(a, b, c) { var d; var e; var f }"};
        BridgedScriptEngine engine = new BridgedScriptEngine();
        for (String part : parts) {
            engine.wipe();
            TestKit.feed(engine, part);
            for (int i = 0; i < 3; i++) {
                TestKit.due("load " + i + " of " + part, engine.load(), TestKit.OK);
            }
        }
        BridgedScriptEngine inside = TestKit.fed("function f() { while (1) {");
        TestKit.due("load", inside.load(), TestKit.SYNTAX);
        inside.wipe();
        TestKit.feed(inside, "return 1");
        TestKit.due("no function is open any more", inside.load(), TestKit.SYNTAX);
        TestKit.due("errorAt", inside.errorAt(), 0);
        inside.wipe();
        TestKit.feed(inside, "break");
        TestKit.due("no loop is open any more", inside.load(), TestKit.SYNTAX);
        TestKit.due("errorAt", inside.errorAt(), 0);
    }
}
