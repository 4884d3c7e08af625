import java.util.ArrayList;
import java.util.Arrays;
import java.util.HashMap;
import java.util.HashSet;
import java.util.LinkedHashSet;
import java.util.List;
import java.util.Map;
import java.util.Set;

/**
 * Says what load must answer, by other means than the class: the grammar of the document as rules, tried all at once
 * (Earley's way), so that a token fits just if some program begins so; and the limits by counting brackets.
 */
final class GrammarOracle {
    int answer;
    int place;

    private static final Map<String, List<String[]>> RULES = new HashMap<>();

    static {
        rule("program", "items0");
        for (int f = 0; f <= 1; f++) {
            rule("items" + f, "");
            rule("items" + f, "items" + f + " item" + f);
            rule("item" + f, "function NAME ( params ) { items1 }");
            rule("item" + f, "stmt0" + f);
            for (int l = 0; l <= 1; l++) {
                statementRules(l, f);
            }
        }
        rule("params", "");
        rule("params", "params1");
        rule("params1", "NAME");
        rule("params1", "params1 , NAME");
        for (String sign : new String[] {"=", "+=", "-=", "*=", "&="}) {
            rule("assign", "target " + sign + " assign");
        }
        rule("assign", "binary");
        rule("assign", "binary ? assign : assign");
        rule("target", "NAME");
        rule("target", "operand . NAME");
        rule("binary", "unary");
        for (int kind = 16; kind <= 36; kind++) {
            rule("binary", "binary " + TestKit.TEXTS[kind] + " unary");
        }
        rule("unary", "- unary");
        rule("unary", "! unary");
        rule("unary", "~ unary");
        rule("unary", "operand");
        rule("operand", "primary");
        rule("operand", "operand . NAME");
        rule("operand", "operand ( args )");
        rule("args", "");
        rule("args", "args1");
        rule("args1", "assign");
        rule("args1", "args1 , assign");
        for (String word : new String[] {"NAME", "NUMBER", "true", "false", "null", "undefined"}) {
            rule("primary", word);
        }
        rule("primary", "( assign )");
        rule("primary", "{ }");
        rule("primary", "{ props }");
        rule("props", "NAME : assign");
        rule("props", "props , NAME : assign");
        rule("primary", "function ( params ) { items1 }");
        rule("primary", "host . NAME ( args )");
        rule("endAfterWord", ";");
        rule("endAfterWord", "<canEnd>");
        rule("endAfterExpression", ";");
        rule("endAfterExpression", "<canEnd> <cannotContinue>");
    }

    private static void statementRules(int l, int f) {
        String s = "stmt" + l + f;
        rule("stmts" + l + f, "");
        rule("stmts" + l + f, "stmts" + l + f + " " + s);
        rule(s, "{ stmts" + l + f + " }");
        rule(s, ";");
        rule(s, "var NAME endAfterWord");
        rule(s, "var NAME = assign endAfterExpression");
        rule(s, "if ( assign ) " + s);
        rule(s, "if ( assign ) " + s + " else " + s);
        rule(s, "while ( assign ) stmt1" + f);
        if (l == 1) {
            rule(s, "break endAfterWord");
            rule(s, "continue endAfterWord");
        }
        if (f == 1) {
            rule(s, "return endAfterWord");
            rule(s, "return <sameLine> assign endAfterExpression");
        }
        rule(s, "throw <sameLine> assign endAfterExpression");
        rule(s, "try { stmts" + l + f + " } catch ( NAME ) { stmts" + l + f + " }");
        rule(s, "<noBraceNoFunction> assign endAfterExpression");
    }

    private static void rule(String left, String right) {
        String[] parts = right.isEmpty() ? new String[0] : right.split(" ");
        RULES.computeIfAbsent(left, key -> new ArrayList<>()).add(parts);
    }

    private record Item(String left, String[] right, int dot, int origin) {
        @Override
        public boolean equals(Object other) {
            return other instanceof Item o && o.right == right && o.dot == dot && o.origin == origin && o.left.equals(left);
        }

        @Override
        public int hashCode() {
            return System.identityHashCode(right) * 31 + dot * 1009 + origin * 7;
        }
    }

    private final List<int[]> tokens = new ArrayList<>();

    /** The tokens as they are fed, line ends among them. */
    GrammarOracle(List<int[]> fed) {
        int line = 0;
        for (int[] token : fed) {
            if (token[0] == 55) {
                line = 1;
            } else {
                tokens.add(new int[] {token[0], token[1], line});
                line = 0;
            }
        }
        decide();
    }

    private void decide() {
        Limits limits = new Limits();
        List<Set<Item>> sets = new ArrayList<>();
        Set<Item> now = new LinkedHashSet<>();
        for (String[] right : RULES.get("program")) {
            now.add(new Item("program", right, 0, 0));
        }
        for (int at = 0; at <= tokens.size(); at++) {
            sets.add(close(now, sets, at));
            if (at == tokens.size()) {
                boolean whole = sets.get(at).stream().anyMatch(i -> i.left.equals("program") && i.dot == i.right.length);
                say(whole ? TestKit.OK : TestKit.SYNTAX, whole ? -1 : at);
                return;
            }
            now = scan(sets.get(at), tokens.get(at)[0]);
            if (now.isEmpty()) {
                say(TestKit.SYNTAX, at);
                return;
            }
            if (!limits.keeps(tokens.get(at))) {
                say(TestKit.LIMIT, at);
                return;
            }
        }
    }

    private void say(int answer, int place) {
        this.answer = answer;
        this.place = place;
    }

    private static String textOf(int kind) {
        return kind == 0 ? "NAME" : kind == 1 ? "NUMBER" : TestKit.TEXTS[kind];
    }

    private static Set<Item> scan(Set<Item> items, int kind) {
        String text = textOf(kind);
        Set<Item> next = new LinkedHashSet<>();
        for (Item item : items) {
            if (item.dot < item.right.length && item.right[item.dot].equals(text)) {
                next.add(new Item(item.left, item.right, item.dot + 1, item.origin));
            }
        }
        return next;
    }

    private Set<Item> close(Set<Item> start, List<Set<Item>> sets, int at) {
        Set<Item> items = new LinkedHashSet<>(start);
        boolean grew = true;
        while (grew) {
            Set<Item> more = new LinkedHashSet<>();
            for (Item item : items) {
                if (item.dot == item.right.length) {
                    complete(item, item.origin == at ? items : sets.get(item.origin), more);
                    continue;
                }
                String next = item.right[item.dot];
                if (next.startsWith("<") && next.length() > 3) {
                    if (holds(next, at)) {
                        more.add(new Item(item.left, item.right, item.dot + 1, item.origin));
                    }
                } else if (RULES.containsKey(next)) {
                    for (String[] right : RULES.get(next)) {
                        more.add(new Item(next, right, 0, at));
                    }
                }
            }
            grew = items.addAll(more);
        }
        return items;
    }

    private static void complete(Item done, Set<Item> from, Set<Item> more) {
        for (Item item : from) {
            if (item.dot < item.right.length && item.right[item.dot].equals(done.left)) {
                more.add(new Item(item.left, item.right, item.dot + 1, item.origin));
            }
        }
    }

    private boolean holds(String condition, int at) {
        int kind = at < tokens.size() ? tokens.get(at)[0] : -1;
        boolean afterLine = at < tokens.size() && tokens.get(at)[2] == 1;
        switch (condition) {
            case "<canEnd>": return kind != 2 && (kind == -1 || kind == 7 || afterLine);
            case "<cannotContinue>": return kind != 4 && kind != 33;
            case "<sameLine>": return !afterLine;
            case "<noBraceNoFunction>": return kind != 6 && kind != 40;
            default: throw new IllegalStateException(condition);
        }
    }

    /** Counts what the limits are about; it is asked only about tokens that fit. */
    private static final class Limits {
        private int functions;
        private int tries;
        private int whiles;
        private final List<Integer> commas = new ArrayList<>();
        private final List<Character> brackets = new ArrayList<>();
        private final List<Set<Integer>> owners = new ArrayList<>();
        private Set<Integer> coming;
        private int last = -1;
        private int lastButOne = -1;

        boolean keeps(int[] token) {
            boolean kept = look(token[0], token[1]);
            lastButOne = last;
            last = token[0];
            return kept;
        }

        private boolean look(int kind, int value) {
            switch (kind) {
                case 40: functions++; coming = new HashSet<>(); return functions <= 6 && owners.size() < 3;
                case 48: tries++; return tries <= 6;
                case 44: whiles++; return whiles <= 8;
                case 3: return comma();
                case 0: return name(value);
                case 4: open(coming != null && (last == 40 || lastButOne == 40) ? 'p' : '('); return true;
                case 6: openBrace(); return true;
                case 5: case 7: close(); return true;
                default: return true;
            }
        }

        private void open(char bracket) {
            brackets.add(bracket);
            commas.add(0);
        }

        private void openBrace() {
            if (coming != null) {
                owners.add(coming);
                coming = null;
                open('f');
            } else {
                open('{');
            }
        }

        private void close() {
            int top = brackets.size() - 1;
            if (brackets.get(top) == 'f') {
                owners.remove(owners.size() - 1);
            }
            brackets.remove(top);
            commas.remove(top);
        }

        private boolean comma() {
            int top = brackets.size() - 1;
            commas.set(top, commas.get(top) + 1);
            boolean counts = brackets.get(top) == '(' || brackets.get(top) == 'p';
            return !counts || commas.get(top) <= 2;
        }

        private boolean name(int value) {
            boolean parameter = !brackets.isEmpty() && brackets.get(brackets.size() - 1) == 'p';
            if (parameter) {
                coming.add(value);
                return coming.size() <= 6;
            }
            boolean declares = last == 39 || last == 40 || last == 4 && lastButOne == 49;
            if (!declares || owners.isEmpty()) {
                return true;
            }
            Set<Integer> own = owners.get(owners.size() - 1);
            own.add(value);
            return own.size() <= 6;
        }
    }

    @Override
    public String toString() {
        return Arrays.asList(answer, place).toString();
    }
}
