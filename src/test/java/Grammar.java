import java.util.ArrayList;
import java.util.HashMap;
import java.util.HashSet;
import java.util.List;
import java.util.Map;
import java.util.Set;
import java.util.function.ToIntFunction;

/**
 * A text by the document's grammar alone: which tokens can stand is asked of a chart (Earley's),
 * what is open is counted from the tokens, and clauses are worked straight from their tokens.
 */
final class Grammar {
    private static final String[][] RULES = {
        {"TEXT"}, {"TEXT", "CLAUSE", "TEXT"},
        {"CLAUSE", "cost", "SUM", ";"}, {"CLAUSE", "grow", "SUM", ";"}, {"CLAUSE", "stay", "EITHER", ";"},
        {"EITHER", "BOTH"}, {"EITHER", "EITHER", "or", "BOTH"},
        {"BOTH", "ASK"}, {"BOTH", "BOTH", "and", "ASK"},
        {"ASK", "not", "ASK"}, {"ASK", "SUM", "SIGN", "SUM"},
        {"SIGN", "<"}, {"SIGN", "<="}, {"SIGN", ">"}, {"SIGN", ">="}, {"SIGN", "="}, {"SIGN", "#"},
        {"SUM", "PRODUCT"}, {"SUM", "SUM", "+", "PRODUCT"}, {"SUM", "SUM", "-", "PRODUCT"},
        {"PRODUCT", "ONE"}, {"PRODUCT", "PRODUCT", "*", "ONE"}, {"PRODUCT", "PRODUCT", "/", "ONE"},
        {"ONE", "NUMBER"}, {"ONE", "NAME"}, {"ONE", "(", "SUM", ")"}, {"ONE", "-", "ONE"},
        {"ONE", "if", "EITHER", "?", "SUM", ":", "SUM", "end"},
    };
    private static final Set<String> PARTS = Set.of(
            "TEXT", "CLAUSE", "EITHER", "BOTH", "ASK", "SIGN", "SUM", "PRODUCT", "ONE");
    private static final Set<String> NAMES = Set.of(
            "off", "away", "people", "state", "town", "hour", "month", "dark", "alone");
    private static final String BLANKS = " \n";

    int fault = 0;
    int place = -1;
    private final Map<String, List<String>> clauses = new HashMap<>();

    /** A rule, how much of it is seen, and where it began. */
    private static final class Item {
        final int rule;
        final int seen;
        final int from;

        Item(int rule, int seen, int from) {
            this.rule = rule;
            this.seen = seen;
            this.from = from;
        }

        String next() {
            return seen + 1 < RULES[rule].length ? RULES[rule][seen + 1] : null;
        }

        int key() {
            return (rule * 8 + seen) * 400 + from;
        }
    }

    private final List<List<Item>> chart = new ArrayList<>();

    Grammar(String text) {
        List<Item> first = new ArrayList<>();
        first.add(new Item(0, 0, 0));
        first.add(new Item(1, 0, 0));
        chart.add(closed(first, 0));
        read(text);
    }

    private List<Item> closed(List<Item> start, int here) {
        List<Item> all = new ArrayList<>();
        Set<Integer> had = new HashSet<>();
        for (Item i : start) {
            if (had.add(i.key())) {
                all.add(i);
            }
        }
        for (int i = 0; i < all.size(); i++) {
            Item item = all.get(i);
            String next = item.next();
            if (next == null) {
                List<Item> origin = item.from == here ? new ArrayList<>(all) : chart.get(item.from);
                for (Item o : origin) {
                    if (RULES[item.rule][0].equals(o.next())) {
                        put(all, had, new Item(o.rule, o.seen + 1, o.from));
                    }
                }
            } else if (PARTS.contains(next)) {
                for (int r = 0; r < RULES.length; r++) {
                    if (RULES[r][0].equals(next)) {
                        put(all, had, new Item(r, 0, here));
                    }
                }
                // A text may be empty: it is behind itself at once.
                if (next.equals("TEXT")) {
                    put(all, had, new Item(item.rule, item.seen + 1, item.from));
                }
            }
        }
        return all;
    }

    private static void put(List<Item> all, Set<Integer> had, Item item) {
        if (had.add(item.key())) {
            all.add(item);
        }
    }

    private boolean canStand(String kind) {
        int here = chart.size() - 1;
        List<Item> on = new ArrayList<>();
        for (Item i : chart.get(here)) {
            if (kind.equals(i.next())) {
                on.add(new Item(i.rule, i.seen + 1, i.from));
            }
        }
        if (on.isEmpty()) {
            return false;
        }
        chart.add(closed(on, here + 1));
        return true;
    }

    private boolean canEnd() {
        for (Item i : chart.get(chart.size() - 1)) {
            if (i.next() == null && i.from == 0 && RULES[i.rule][0].equals("TEXT")) {
                return true;
            }
        }
        return false;
    }

    private static int tokenEnd(String text, int at) {
        String letters = "[a-zA-Z]+";
        String digits = "[0-9]+";
        int end = at + 1;
        for (String likes : new String[] {letters, digits}) {
            while (end <= text.length() && text.substring(at, end).matches(likes)) {
                end++;
            }
        }
        if (end > at + 1) {
            return end - 1;
        }
        boolean two = text.startsWith("<=", at) || text.startsWith(">=", at);
        return two ? at + 2 : at + 1;
    }

    private static String kindOf(String token) {
        if (token.matches("[0-9]+")) {
            return "NUMBER";
        }
        if (NAMES.contains(token)) {
            return "NAME";
        }
        // A part's own name in the text is no such part.
        return PARTS.contains(token) || token.equals("NUMBER") || token.equals("NAME") ? "?!" : token;
    }

    private void refuse(int reason, int at) {
        fault = reason;
        place = at;
    }

    private void read(String text) {
        List<String> open = new ArrayList<>();
        List<String> clause = null;
        String before = ";";
        int at = 0;
        while (true) {
            while (at < text.length() && BLANKS.indexOf(text.charAt(at)) >= 0) {
                at++;
            }
            if (at == text.length()) {
                if (!canEnd()) {
                    refuse(1, at);
                }
                return;
            }
            int end = tokenEnd(text, at);
            String token = text.substring(at, end);
            String kind = kindOf(token);
            if (!canStand(kind)) {
                refuse(1, at);
                return;
            }
            if (kind.equals("NUMBER") && token.replaceFirst("^0+", "").length() > 4) {
                refuse(2, at);
                return;
            }
            boolean ended = before.equals(")") || before.equals("end") || kindOf(before).startsWith("N");
            if (token.equals("(") || token.equals("not") || token.equals("if") || token.equals("-") && !ended) {
                if (open.size() == 8) {
                    refuse(3, at);
                    return;
                }
                open.add(token);
            }
            close(open, token, kind);
            if (Set.of("cost", "grow", "stay").contains(token)) {
                if (clauses.containsKey(token)) {
                    refuse(4, at);
                    return;
                }
                clause = new ArrayList<>();
                clauses.put(token, clause);
            } else {
                clause.add(token);
            }
            before = token;
            at = end;
        }
    }

    private static String top(List<String> open) {
        return open.isEmpty() ? "" : open.get(open.size() - 1);
    }

    private static void close(List<String> open, String token, String kind) {
        if (Set.of("and", "or", ";", "?").contains(token)) {
            while (top(open).equals("not")) {
                open.remove(open.size() - 1);
            }
        }
        if (token.equals(")") || token.equals("end")) {
            open.remove(open.size() - 1);
        }
        if (token.equals(")") || token.equals("end") || kind.equals("NUMBER") || kind.equals("NAME")) {
            while (top(open).equals("-")) {
                open.remove(open.size() - 1);
            }
        }
    }

    boolean has(String clause) {
        return clauses.containsKey(clause);
    }

    private List<String> tokens;
    private int at;
    private ToIntFunction<String> names;

    int work(String clause, ToIntFunction<String> by) {
        tokens = clauses.get(clause);
        at = 0;
        names = by;
        return clause.equals("stay") ? (either() ? 1 : 0) : sum();
    }

    private boolean takes(String token) {
        if (tokens.get(at).equals(token)) {
            at++;
            return true;
        }
        return false;
    }

    private static int limited(long v) {
        return (int) Math.max(-1000000, Math.min(1000000, v));
    }

    private boolean either() {
        boolean is = both();
        while (takes("or")) {
            is |= both();
        }
        return is;
    }

    private boolean both() {
        boolean is = ask();
        while (takes("and")) {
            is &= ask();
        }
        return is;
    }

    private boolean ask() {
        if (takes("not")) {
            return !ask();
        }
        int left = sum();
        String sign = tokens.get(at++);
        int right = sum();
        switch (sign) {
            case "<": return left < right;
            case "<=": return left <= right;
            case ">": return left > right;
            case ">=": return left >= right;
            case "=": return left == right;
            default: return left != right;
        }
    }

    private int sum() {
        int v = product();
        while (true) {
            if (takes("+")) {
                v = limited((long) v + product());
            } else if (takes("-")) {
                v = limited((long) v - product());
            } else {
                return v;
            }
        }
    }

    private int product() {
        int v = single();
        while (true) {
            if (takes("*")) {
                v = limited((long) v * single());
            } else if (takes("/")) {
                int by = single();
                v = by == 0 ? 0 : v / by;
            } else {
                return v;
            }
        }
    }

    private int single() {
        String token = tokens.get(at++);
        if (token.equals("(")) {
            int v = sum();
            at++;
            return v;
        }
        if (token.equals("-")) {
            return -single();
        }
        if (token.equals("if")) {
            boolean is = either();
            at++;
            int one = sum();
            at++;
            int other = sum();
            at++;
            return is ? one : other;
        }
        return NAMES.contains(token) ? names.applyAsInt(token) : Integer.parseInt(token);
    }
}
