import java.io.IOException;
import java.lang.reflect.Method;
import java.lang.reflect.Modifier;
import java.nio.file.Files;
import java.nio.file.Path;
import java.util.ArrayList;
import java.util.List;
import java.util.Set;
import java.util.TreeSet;
import java.util.regex.Matcher;
import java.util.regex.Pattern;
import java.util.stream.Stream;

/** Runs the examples of README.md line by line, and holds what it says of the tests against what is there. */
public final class ReadmeTest {
    private static final String NEW_ENGINE = "BridgedScriptEngine engine = new BridgedScriptEngine();";
    private static final Pattern LINE = Pattern.compile("((?:engine\\.\\w+\\([^)]*\\); *)+)// (each )?([^:]+)(?:: (.*))?");
    private static final Pattern CALL = Pattern.compile("engine\\.(\\w+)\\(([^)]*)\\);");
    private static final Pattern VALUE = Pattern.compile("(\\d+) \\* 2\\^32 \\+ (\\d+)");

    private static final Set<String> used = new TreeSet<>();
    private static BridgedScriptEngine engine;

    public static void main(String[] args) throws IOException, ReflectiveOperationException {
        List<String> lines = Files.readAllLines(Path.of("README.md"));
        runExamples(lines);
        everyMethodIsUsed();
        everyTestIsInTheTable(lines);
        theTestsThatRunAreNamed(lines);
        TestKit.end();
    }

    private static void runExamples(List<String> lines) throws ReflectiveOperationException {
        boolean inExample = false;
        for (String line : lines) {
            if (line.startsWith("```")) {
                inExample = line.equals("```java");
            } else if (inExample) {
                runLine(line);
            }
        }
    }

    private static void runLine(String line) throws ReflectiveOperationException {
        if (line.equals(NEW_ENGINE)) {
            engine = new BridgedScriptEngine();
            return;
        }
        Matcher parts = LINE.matcher(line);
        boolean understood = parts.matches();
        TestKit.due("README.md: a call with its answer: " + line, understood, true);
        if (!understood) {
            return;
        }
        List<int[]> fed = new ArrayList<>();
        Matcher calls = CALL.matcher(parts.group(1));
        while (calls.find()) {
            int[] arguments = numbers(calls.group(2));
            TestKit.due("README.md: " + calls.group(), answerOf(calls.group(1), arguments), dueAnswer(parts.group(3).trim()));
            if (calls.group(1).equals("token")) {
                fed.add(arguments);
            }
        }
        if (!fed.isEmpty() && parts.group(3).equals("true") && parts.group(4) != null) {
            sourceIsAsFed(line, fed, TestKit.tokensOf(parts.group(4)));
        }
    }

    private static int[] numbers(String arguments) {
        return Stream.of(arguments.split(", *")).filter(word -> !word.isEmpty()).mapToInt(Integer::parseInt).toArray();
    }

    private static long answerOf(String name, int[] arguments) throws ReflectiveOperationException {
        used.add(name);
        Class<?>[] types = new Class<?>[arguments.length];
        Object[] values = new Object[arguments.length];
        for (int i = 0; i < arguments.length; i++) {
            types[i] = int.class;
            values[i] = arguments[i];
        }
        Object answer = BridgedScriptEngine.class.getMethod(name, types).invoke(engine, values);
        return answer instanceof Boolean truth ? (truth ? 1 : 0) : ((Number) answer).longValue();
    }

    private static long dueAnswer(String text) throws ReflectiveOperationException {
        Matcher value = VALUE.matcher(text);
        if (value.matches()) {
            return (Long.parseLong(value.group(1)) << 32) + Long.parseLong(value.group(2));
        }
        if (text.equals("true") || text.equals("false")) {
            return text.equals("true") ? 1 : 0;
        }
        return Character.isLetter(text.charAt(0)) ? BridgedScriptEngine.class.getField(text).getInt(null) : Long.parseLong(text);
    }

    private static void sourceIsAsFed(String line, List<int[]> fed, List<int[]> said) {
        TestKit.due("README.md: number of tokens: " + line, fed.size(), said.size());
        for (int i = 0; i < fed.size() && i < said.size(); i++) {
            TestKit.due("README.md: kind of token " + i + ": " + line, fed.get(i)[0], said.get(i)[0]);
            if (fed.get(i)[0] <= 1) {
                TestKit.due("README.md: value of token " + i + ": " + line, fed.get(i)[1], said.get(i)[1]);
            }
        }
    }

    private static void everyMethodIsUsed() {
        for (Method method : BridgedScriptEngine.class.getDeclaredMethods()) {
            if (Modifier.isPublic(method.getModifiers())) {
                TestKit.due("README.md: an example uses " + method.getName(), used.contains(method.getName()), true);
            }
        }
    }

    private static void everyTestIsInTheTable(List<String> lines) throws IOException {
        Set<String> named = new TreeSet<>();
        for (String line : lines) {
            Matcher test = Pattern.compile("`(\\w+Test)`").matcher(line);
            while (line.startsWith("|") && test.find()) {
                named.add(test.group(1));
            }
        }
        Set<String> there = new TreeSet<>();
        try (Stream<Path> files = Files.list(Path.of("src/test/java"))) {
            files.map(file -> file.getFileName().toString()).filter(file -> file.endsWith("Test.java"))
                .forEach(file -> there.add(file.replace(".java", "")));
        }
        TestKit.due("README.md: the table names " + named + ", there are " + there, named.equals(there), true);
    }

    private static void theTestsThatRunAreNamed(List<String> lines) throws IOException {
        Matcher loop = Pattern.compile("for test in (.*); do").matcher(Files.readString(Path.of(".ci/run")));
        TestKit.due(".ci/run goes through the tests", loop.find(), true);
        for (String files : loop.group(1).split(" ")) {
            boolean named = lines.stream().anyMatch(line -> line.contains("`" + files + "`"));
            TestKit.due("README.md: names " + files + ", which .ci/run runs", named, true);
        }
    }
}
