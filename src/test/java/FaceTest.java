import java.lang.reflect.Constructor;
import java.lang.reflect.Field;
import java.lang.reflect.Method;
import java.lang.reflect.Modifier;
import java.util.Arrays;
import java.util.Set;
import java.util.TreeSet;

/** The public face of the class: just the members of the document, with the constants' values. */
public final class FaceTest {
    private static final Set<String> MEMBERS = new TreeSet<>(Arrays.asList(
        "boolean token(int,int)", "int wipe()", "int overload(int,int,int,int)", "int load()", "int errorAt()", "int run()",
        "int call(int,int,int)", "long result()", "long global(int)", "long prop(int,int)", "int propName(int,int)",
        "boolean same(int,int)", "int traceCount()", "int traceMethod(int)", "long traceArg(int,int)",
        "OK=0", "SYNTAX=1", "LIMIT=2", "DONE=0", "THROWN=1", "STOPPED=2", "NOT_LOADED=3", "NO_FUNCTION=4", "new()"));

    public static void main(String[] args) throws IllegalAccessException {
        Class<?> face = BridgedScriptEngine.class;
        TestKit.due("public and final", face.getModifiers(), Modifier.PUBLIC | Modifier.FINAL);
        Set<String> found = new TreeSet<>();
        for (Method method : face.getDeclaredMethods()) {
            if (!Modifier.isPrivate(method.getModifiers())) {
                found.add(method.getReturnType() + " " + method.getName() + parameters(method.getParameterTypes()));
            }
        }
        for (Field field : face.getDeclaredFields()) {
            if (!Modifier.isPrivate(field.getModifiers())) {
                TestKit.due(field.getName(), field.getModifiers(), Modifier.PUBLIC | Modifier.STATIC | Modifier.FINAL);
                found.add(field.getName() + "=" + field.getInt(null));
            }
        }
        for (Constructor<?> constructor : face.getDeclaredConstructors()) {
            found.add("new" + parameters(constructor.getParameterTypes()));
        }
        for (String member : MEMBERS) {
            TestKit.due(member + " is there", found.contains(member), true);
        }
        for (String member : found) {
            TestKit.due(member + " is in the document", MEMBERS.contains(member), true);
        }
        TestKit.end();
    }

    private static String parameters(Class<?>[] types) {
        StringBuilder text = new StringBuilder("(");
        for (Class<?> type : types) {
            text.append(text.length() > 1 ? "," : "").append(type);
        }
        return text.append(")").toString();
    }
}
