import java.util.ArrayList;
import java.util.List;
import java.util.Random;

/** Makes texts by chance: such as the grammar allows, and such with something amiss. */
final class Texts {
    private static final String[] NAMES = {
        "off", "away", "people", "state", "town", "hour", "month", "dark", "alone"};
    private static final String[] SIGNS = {"<", "<=", ">", ">=", "=", "#"};
    private static final String[] ANY = {
        "cost", "grow", "stay", "or", "and", "not", "if", "end", "off", "alone", "7", "9999", "10000", "00012",
        "<", "<=", ">", ">=", "=", "#", "+", "-", "*", "/", "(", ")", ";", "?", ":", "!", "Off", "\t", "\u00e9",
        "99999999999", "ands", "x"};

    private final Random by;
    private int open;

    Texts(Random by) {
        this.by = by;
    }

    private boolean chance(int percent) {
        return by.nextInt(100) < percent;
    }

    /** A text of 300 bytes at most. */
    String next() {
        List<String> tokens = new ArrayList<>();
        open = 0;
        List<String> words = new ArrayList<>(List.of("cost", "grow", "stay"));
        while (!words.isEmpty() && chance(85)) {
            String word = words.remove(by.nextInt(words.size()));
            tokens.add(word);
            if (word.equals("stay")) {
                either(tokens, 3);
            } else {
                sum(tokens, 3);
            }
            tokens.add(";");
            if (chance(3)) {
                words.add(word);
            }
        }
        if (chance(25)) {
            spoil(tokens);
        }
        StringBuilder text = new StringBuilder();
        for (String token : tokens) {
            if (text.length() > 0 && tight(text.charAt(text.length() - 1), token.charAt(0)) || chance(30)) {
                text.append(chance(80) ? ' ' : '\n');
            }
            text.append(token);
        }
        if (text.length() > 300) {
            text.setLength(300);
        }
        return text.toString();
    }

    /** Whether the two would be one token. */
    private static boolean tight(char last, char first) {
        return Character.isLetter(last) && Character.isLetter(first)
                || Character.isDigit(last) && Character.isDigit(first)
                || (last == '<' || last == '>') && first == '=';
    }

    private void spoil(List<String> tokens) {
        int times = 1 + by.nextInt(2);
        for (int i = 0; i < times; i++) {
            int at = by.nextInt(tokens.size() + 1);
            int how = by.nextInt(3);
            if (how == 0 || at == tokens.size()) {
                tokens.add(at, ANY[by.nextInt(ANY.length)]);
            } else if (how == 1) {
                tokens.remove(at);
            } else {
                tokens.set(at, ANY[by.nextInt(ANY.length)]);
            }
        }
    }

    private void either(List<String> tokens, int size) {
        both(tokens, size);
        while (chance(25)) {
            tokens.add("or");
            both(tokens, size - 1);
        }
    }

    private void both(List<String> tokens, int size) {
        asked(tokens, size);
        while (chance(25)) {
            tokens.add("and");
            asked(tokens, size - 1);
        }
    }

    private void asked(List<String> tokens, int size) {
        if (chance(20) && (open < 8 || chance(3))) {
            open++;
            tokens.add("not");
            asked(tokens, size);
            open--;
            return;
        }
        sum(tokens, size - 1);
        tokens.add(SIGNS[by.nextInt(SIGNS.length)]);
        sum(tokens, size - 1);
    }

    private void sum(List<String> tokens, int size) {
        product(tokens, size);
        while (chance(35)) {
            tokens.add(chance(50) ? "+" : "-");
            product(tokens, size - 1);
        }
    }

    private void product(List<String> tokens, int size) {
        single(tokens, size);
        while (chance(25)) {
            tokens.add(chance(60) ? "*" : "/");
            single(tokens, size - 1);
        }
    }

    private void single(List<String> tokens, int size) {
        boolean mayOpen = open < 8 || chance(5);
        if (size > 0 && mayOpen && chance(15)) {
            open++;
            tokens.add("(");
            sum(tokens, size - 1);
            tokens.add(")");
            open--;
        } else if (mayOpen && chance(12)) {
            open++;
            tokens.add("-");
            single(tokens, size);
            open--;
        } else if (size > 0 && mayOpen && chance(20)) {
            open++;
            tokens.add("if");
            either(tokens, size - 1);
            tokens.add("?");
            sum(tokens, size - 1);
            tokens.add(":");
            sum(tokens, size - 1);
            tokens.add("end");
            open--;
        } else if (chance(60)) {
            tokens.add(NAMES[by.nextInt(NAMES.length)]);
        } else {
            int[] most = {3, 20, 400, 9999};
            tokens.add(Integer.toString(by.nextInt(most[by.nextInt(4)] + 1)));
        }
    }
}
