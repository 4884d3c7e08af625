import java.util.ArrayList;
import java.util.List;

/** What the tests share: sources as text, values as longs, and the count of wrong answers. */
final class TestKit {
    static final int OK = BridgedScriptEngine.OK;
    static final int SYNTAX = BridgedScriptEngine.SYNTAX;
    static final int LIMIT = BridgedScriptEngine.LIMIT;
    static final int DONE = BridgedScriptEngine.DONE;
    static final int THROWN = BridgedScriptEngine.THROWN;
    static final int STOPPED = BridgedScriptEngine.STOPPED;
    static final int NOT_LOADED = BridgedScriptEngine.NOT_LOADED;
    static final int NO_FUNCTION = BridgedScriptEngine.NO_FUNCTION;

    static final long UNDEFINED = 0L;
    static final long NULL = 1L << 32;
    static final long ABSENT = 6L << 32;

    /** The text of each token kind; the place in the array is the kind. */
    static final String[] TEXTS = {
        null, null, ";", ",", "(", ")", "{", "}", ".", "?", ":", "=", "+=", "-=", "*=", "&=",
        "||", "&&", "|", "^", "&", "==", "!=", "===", "!==", "<", ">", "<=", ">=",
        "<<", ">>", ">>>", "+", "-", "*", "/", "%", "!", "~",
        "var", "function", "return", "if", "else", "while", "break", "continue", "throw",
        "try", "catch", "true", "false", "null", "undefined", "host", "\n"
    };

    private static int wrong = 0;
    private static int asked = 0;
    private static String sentence = "";

    private TestKit() {
    }

    static long bool(boolean value) {
        return (2L << 32) + (value ? 1 : 0);
    }

    static long num(int value) {
        return (3L << 32) + (value & 0xFFFFFFFFL);
    }

    static long obj(int properties) {
        return (4L << 32) + 2L * properties;
    }

    static long fun(int properties) {
        return (4L << 32) + 2L * properties + 1;
    }

    static long err(int code) {
        return (5L << 32) + code;
    }

    /** The words of the document that the next answers are about; a wrong answer is printed under them. */
    static void sentence(String words) {
        sentence = words;
    }

    static void due(String what, long got, long want) {
        asked++;
        if (got != want) {
            wrong++;
            if (!sentence.isEmpty()) {
                System.out.println("\"" + sentence + "\"");
            }
            System.out.println(what.replace("\n", "\\n") + ": answered " + shown(got) + ", due is " + shown(want));
        }
    }

    static void due(String what, boolean got, boolean want) {
        due(what, got ? 1L : 0L, want ? 1L : 0L);
    }

    private static String shown(long value) {
        return value >= NULL && value <= ABSENT ? (value >> 32) + ":" + (int) value : "" + value;
    }

    static void end() {
        System.out.println(wrong == 0 ? asked + " answers are as due" : wrong + " of " + asked + " answers are not as due");
        if (wrong != 0) {
            System.exit(1);
        }
    }

    /** Splits a text into pairs of kind and value. A single letter is a NAME, a line feed is kind 55. */
    static List<int[]> tokensOf(String source) {
        List<int[]> tokens = new ArrayList<>();
        int at = 0;
        while (at < source.length()) {
            char c = source.charAt(at);
            if (c == ' ') {
                at++;
            } else if (Character.isDigit(c)) {
                int end = at;
                while (end < source.length() && Character.isDigit(source.charAt(end))) {
                    end++;
                }
                tokens.add(new int[] {1, Integer.parseInt(source.substring(at, end))});
                at = end;
            } else if (Character.isLetter(c)) {
                int end = at;
                while (end < source.length() && Character.isLetter(source.charAt(end))) {
                    end++;
                }
                tokens.add(word(source.substring(at, end)));
                at = end;
            } else {
                int kind = longestSign(source, at);
                tokens.add(new int[] {kind, 0});
                at += TEXTS[kind].length();
            }
        }
        return tokens;
    }

    private static int[] word(String word) {
        if (word.length() == 1) {
            return new int[] {0, word.charAt(0) - 'a'};
        }
        for (int kind = 39; kind <= 54; kind++) {
            if (word.equals(TEXTS[kind])) {
                return new int[] {kind, 0};
            }
        }
        throw new IllegalArgumentException("no such word: " + word);
    }

    private static int longestSign(String source, int at) {
        int best = -1;
        for (int kind = 2; kind <= 55; kind++) {
            boolean fits = (kind < 39 || kind == 55) && source.startsWith(TEXTS[kind], at);
            if (fits && (best < 0 || TEXTS[kind].length() > TEXTS[best].length())) {
                best = kind;
            }
        }
        if (best < 0) {
            throw new IllegalArgumentException("no such sign: " + source.substring(at));
        }
        return best;
    }

    static void feed(BridgedScriptEngine engine, String source) {
        for (int[] token : tokensOf(source)) {
            if (!engine.token(token[0], token[1])) {
                due("token of " + source, false, true);
            }
        }
    }

    static BridgedScriptEngine fed(String source) {
        BridgedScriptEngine engine = new BridgedScriptEngine();
        feed(engine, source);
        return engine;
    }

    static BridgedScriptEngine loaded(String source) {
        BridgedScriptEngine engine = fed(source);
        due("load of " + source, engine.load(), OK);
        return engine;
    }

    /** A new object that has run the source to its end. */
    static BridgedScriptEngine ran(String source) {
        BridgedScriptEngine engine = loaded(source);
        due("run of " + source, engine.run(), DONE);
        return engine;
    }

    static int name(char letter) {
        return letter - 'a';
    }

    static long global(BridgedScriptEngine engine, char letter) {
        return engine.global(name(letter));
    }

    /** The source runs to its end, and then global r is the value. */
    static void leaves(String source, long value) {
        BridgedScriptEngine engine = ran(source);
        due("r after " + source, global(engine, 'r'), value);
    }

    static void yields(String expression, long value) {
        leaves("var r = " + expression + ";", value);
    }

    static void throwsValue(String source, long value) {
        BridgedScriptEngine engine = loaded(source);
        due("run of " + source, engine.run(), THROWN);
        due("result of " + source, engine.result(), value);
    }

    static void stops(String source) {
        BridgedScriptEngine engine = loaded(source);
        due("run of " + source, engine.run(), STOPPED);
        due("result of " + source, engine.result(), UNDEFINED);
    }

    static void loads(String source) {
        refuses(source, OK, -1);
    }

    /** The load of the source answers so, with the error at that place. */
    static void refuses(String source, int answer, int place) {
        BridgedScriptEngine engine = fed(source);
        due("load of " + source, engine.load(), answer);
        due("errorAt of " + source, engine.errorAt(), place);
        due("run after load of " + source, engine.run() == NOT_LOADED, answer != OK);
    }

    /** All that can be asked of an object without changing it; 40 calls, and 8 more for each global that holds an object. */
    static List<Long> seen(BridgedScriptEngine engine) {
        List<Long> seen = new ArrayList<>();
        seen.add(engine.result());
        seen.add((long) engine.errorAt());
        for (int g = 0; g < 26; g++) {
            long value = engine.global(g);
            seen.add(value);
            for (int i = 0; i < 4 && value >> 32 == 4; i++) {
                int name = engine.propName(g, i);
                seen.add((long) name);
                seen.add(engine.prop(g, name));
            }
        }
        seen.add((long) engine.traceCount());
        for (int k = 0; k < 4; k++) {
            seen.add((long) engine.traceMethod(k));
            seen.add(engine.traceArg(k, 0));
            seen.add(engine.traceArg(k, 1));
        }
        return seen;
    }

    /** Nothing of what was seen before has changed. */
    static void unchanged(String what, BridgedScriptEngine engine, List<Long> before) {
        List<Long> now = seen(engine);
        due(what + ": as much is seen", now.size(), before.size());
        for (int i = 0; i < now.size() && i < before.size(); i++) {
            due(what + ": place " + i + " of what is seen", now.get(i), before.get(i));
        }
    }

    static String times(String part, int count) {
        StringBuilder text = new StringBuilder();
        for (int i = 0; i < count; i++) {
            text.append(part);
        }
        return text.toString();
    }
}
