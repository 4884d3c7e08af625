/** Promise 1, and that objects do not share anything. */
public final class NewObjectTest {
    public static void main(String[] args) {
        BridgedScriptEngine engine = new BridgedScriptEngine();
        TestKit.due("errorAt", engine.errorAt(), -1);
        TestKit.due("result", engine.result(), TestKit.UNDEFINED);
        for (int g = -1; g <= 26; g++) {
            TestKit.due("global " + g, engine.global(g), TestKit.ABSENT);
            TestKit.due("prop " + g, engine.prop(g, 0), TestKit.ABSENT);
            TestKit.due("propName " + g, engine.propName(g, 0), -1);
            TestKit.due("same " + g, engine.same(g, g), false);
        }
        TestKit.due("traceCount", engine.traceCount(), 0);
        TestKit.due("traceMethod", engine.traceMethod(0), -1);
        TestKit.due("traceArg", engine.traceArg(0, 0), 0);
        TestKit.due("run", engine.run(), TestKit.NOT_LOADED);
        TestKit.due("call", engine.call(0, 1, 2), TestKit.NOT_LOADED);
        TestKit.due("result after these", engine.result(), TestKit.UNDEFINED);
        TestKit.due("wipe", engine.wipe(), 0);
        TestKit.due("the first method's number", engine.overload(0, 0, 0, 2), 0);
        startsEmpty();
        objectsAreApart();
        TestKit.end();
    }

    private static void startsEmpty() {
        BridgedScriptEngine engine = new BridgedScriptEngine();
        TestKit.due("load of nothing", engine.load(), TestKit.OK);
        TestKit.due("call before run", engine.call(0, 1, 2), TestKit.NO_FUNCTION);
        TestKit.due("run of nothing", engine.run(), TestKit.DONE);
        TestKit.due("result of nothing", engine.result(), TestKit.UNDEFINED);
    }

    private static void objectsAreApart() {
        BridgedScriptEngine one = TestKit.ran("a = 1");
        BridgedScriptEngine other = new BridgedScriptEngine();
        TestKit.due("a in the one", TestKit.global(one, 'a'), TestKit.num(1));
        TestKit.due("a in the other", TestKit.global(other, 'a'), TestKit.ABSENT);
        TestKit.due("run of the other", other.run(), TestKit.NOT_LOADED);
    }
}
