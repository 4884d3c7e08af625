import java.util.ArrayList;
import java.util.List;

/** Makes programs from a number, the same ones each time; most of them load, the wild ones may go over a limit. */
final class ProgramMaker {
    private static final String[] SIGNS = {
        "||", "&&", "|", "^", "&", "==", "!=", "===", "!==", "<", ">", "<=", ">=", "<<", ">>", ">>>", "+", "-", "*", "/", "%",
        "+", "-", "<", "=="
    };

    /** Programs end soon after so many tokens, for the source holds 160. */
    private static final int ENOUGH = 110;

    private long state;
    private boolean wild;
    private int functionsLeft;
    private int whilesLeft;
    private int triesLeft;
    private int size;
    private StringBuilder text;

    ProgramMaker(long seed) {
        state = seed * 0x9E3779B97F4A7C15L + 12345;
    }

    int below(int bound) {
        state = state * 6364136223846793005L + 1442695040888963407L;
        return (int) ((state >>> 33) % bound);
    }

    private boolean chance(int percent) {
        return below(100) < percent;
    }

    private void put(String part) {
        text.append(part).append(' ');
        size += part.split(" ").length;
    }

    String program() {
        wild = chance(12);
        functionsLeft = wild ? 9 : 6;
        whilesLeft = wild ? 10 : 8;
        triesLeft = wild ? 8 : 6;
        size = 0;
        text = new StringBuilder();
        boolean prepared = chance(80);
        if (prepared) {
            put("var a = 1 ; var b = { a : 2 } ; var c = 0 ; var d = " + below(9) + " ;");
        }
        int count = 2 + below(9);
        for (int i = 0; i < count && size < ENOUGH; i++) {
            boolean guarded = triesLeft > 0 && prepared && chance(40);
            if (!guarded) {
                item(0, false, false);
                continue;
            }
            triesLeft--;
            put("try {");
            statement(0, false, false, 1);
            put("} catch ( " + variable() + " ) { }");
        }
        return text.toString();
    }

    private String variable() {
        return String.valueOf("aabbcdfghi".charAt(below(wild ? 10 : 9)));
    }

    private String property() {
        return String.valueOf("abcde".charAt(below(5)));
    }

    private void end() {
        int dice = below(100);
        put(dice < 55 ? ";" : dice < 97 ? "\n" : dice < 99 ? "\n;" : "");
    }

    private void item(int depth, boolean loop, boolean function) {
        if (functionsLeft > 0 && depth < (wild ? 5 : 3) && chance(depth == 0 ? 35 : 15)) {
            functionsLeft--;
            put("function");
            put(chance(70) ? String.valueOf("fgh".charAt(below(3))) : variable());
            functionRest(depth);
        } else {
            statement(depth, loop, function, 0);
        }
    }

    private void functionRest(int depth) {
        put("(");
        int count = below(wild ? 5 : 4);
        for (int i = 0; i < count; i++) {
            put((i > 0 ? ", " : "") + variable());
        }
        put(") {");
        int items = below(4);
        for (int i = 0; i < items && size < ENOUGH; i++) {
            item(depth + 1, false, true);
        }
        if (chance(60)) {
            put("return");
            expression(depth + 1, 0);
        }
        put("}");
    }

    private void body(int depth, boolean loop, boolean function, int level) {
        if (chance(60)) {
            block(depth, loop, function, level);
        } else {
            statement(depth, loop, function, level + 1);
        }
    }

    private void block(int depth, boolean loop, boolean function, int level) {
        put("{");
        int count = below(4);
        for (int i = 0; i < count && size < ENOUGH; i++) {
            statement(depth, loop, function, level + 1);
        }
        put("}");
    }

    private void statement(int depth, boolean loop, boolean function, int level) {
        int dice = below(level > 3 ? 40 : 100);
        if (dice < 36) {
            simple(depth);
        } else if (dice < 40) {
            leave(depth, loop, function);
        } else if (dice < 60) {
            put("var " + variable());
            if (chance(85)) {
                put("=");
                expression(depth, 0);
            }
            end();
        } else if (dice < 72) {
            put("if (");
            expression(depth, 1);
            put(")");
            body(depth, loop, function, level);
            if (chance(40)) {
                put("else");
                body(depth, loop, function, level);
            }
        } else if (dice < 84 && whilesLeft > 0) {
            whilesLeft--;
            put("while (");
            if (chance(60)) {
                put("( c += 1 ) < " + (2 + below(8)));
            } else {
                expression(depth, 1);
            }
            put(")");
            body(depth, true, function, level);
        } else if (dice < 96 && triesLeft > 0) {
            triesLeft--;
            put("try");
            block(depth, loop, function, level);
            put("catch ( " + variable() + " )");
            block(depth, loop, function, level);
        } else {
            block(depth, loop, function, level);
        }
    }

    private void simple(int depth) {
        String[] signs = {"=", "=", "=", "+=", "-=", "*=", "&="};
        int dice = below(10);
        if (dice < 4) {
            put(variable() + " " + signs[below(7)]);
            expression(depth, 0);
        } else if (dice < 7) {
            put(variable() + " . " + property() + " " + signs[below(7)]);
            expression(depth, 0);
        } else if (dice < 9) {
            put("f g h".split(" ")[below(3)]);
            arguments(depth, 1);
        } else {
            host(depth, 1);
        }
        end();
    }

    private void leave(int depth, boolean loop, boolean function) {
        if (loop && chance(70)) {
            put(chance(50) ? "break" : "continue");
        } else if (function && chance(60)) {
            put("return");
            if (chance(70)) {
                expression(depth, 1);
            }
        } else {
            put("throw");
            expression(depth, 1);
        }
        end();
    }

    private void arguments(int depth, int level) {
        put("(");
        int count = below(wild ? 5 : 4);
        for (int i = 0; i < count; i++) {
            if (i > 0) {
                put(",");
            }
            expression(depth, level + 1);
        }
        put(")");
    }

    private void host(int depth, int level) {
        put("host . " + "mn".charAt(below(2)));
        put("(");
        int count = chance(5) ? 3 : below(wild ? 5 : 3);
        for (int i = 0; i < count; i++) {
            if (i > 0) {
                put(",");
            }
            expression(depth, level + 1);
        }
        put(")");
    }

    private void expression(int depth, int level) {
        int dice = below(level > 2 || size > ENOUGH ? 45 : 100);
        if (dice < 20) {
            put(variable());
        } else if (dice < 38) {
            put(String.valueOf(chance(90) ? below(7) : Integer.MAX_VALUE - below(3)));
        } else if (dice < 45) {
            put("true false null undefined".split(" ")[below(4)]);
        } else if (dice < 60) {
            expression(depth, level + 1);
            put(SIGNS[below(SIGNS.length)]);
            expression(depth, level + 1);
        } else if (dice < 66) {
            put("- ! ~".split(" ")[below(3)]);
            expression(depth, level + 1);
        } else if (dice < 72) {
            literal(depth, level);
        } else if (dice < 78) {
            put(variable() + " . " + property());
        } else if (dice < 84) {
            put(variable());
            arguments(depth, level + 1);
        } else if (dice < 88) {
            host(depth, level + 1);
        } else if (dice < 91) {
            put("(");
            expression(depth, level + 1);
            put(")");
        } else if (dice < 94) {
            expression(depth, level + 1);
            put("?");
            expression(depth, level + 1);
            put(":");
            expression(depth, level + 1);
        } else if (dice < 97 || functionsLeft == 0 || depth >= (wild ? 5 : 3)) {
            put("( " + variable() + " =");
            expression(depth, level + 1);
            put(")");
        } else {
            functionsLeft--;
            put("function");
            functionRest(depth);
        }
    }

    private void literal(int depth, int level) {
        put("{");
        int count = chance(8) ? 5 : below(4);
        for (int i = 0; i < count; i++) {
            put((i > 0 ? ", " : "") + property() + " :");
            expression(depth, level + 1);
        }
        put("}");
    }

    /** The tokens with a few of them dropped, doubled, swapped or replaced, or with line ends put in. */
    List<int[]> spoiled(List<int[]> tokens) {
        List<int[]> spoiled = new ArrayList<>(tokens);
        int changes = 1 + below(3);
        for (int i = 0; i < changes && !spoiled.isEmpty(); i++) {
            int at = below(spoiled.size());
            int[] any = {below(56), below(26)};
            switch (below(5)) {
                case 0: spoiled.remove(at); break;
                case 1: spoiled.add(at, any); break;
                case 2: spoiled.set(at, any); break;
                case 3: spoiled.add(at, spoiled.get(below(spoiled.size()))); break;
                default: spoiled.add(at, new int[] {55, 0}); break;
            }
        }
        return spoiled;
    }
}
