import java.util.ArrayList;
import java.util.List;

/** Laws for the Model: faults by an automaton with a stack, values by a tree of functions. */
final class LawModel {
    private static final String FACTS = " age there right shown weight talks ";
    private static final String HEADS = " learn order lose must ";

    private final String text;
    private final List<String> tokens = new ArrayList<>();
    private final List<Integer> places = new ArrayList<>();
    private int next = 0;

    private LawModel(String text) {
        this.text = text;
        int i = 0;
        while (i < text.length()) {
            int j = i + 1;
            char c = text.charAt(i);
            while (j < text.length() && sort(c) > 0 && sort(text.charAt(j)) == sort(c)) {
                j++;
            }
            if (c != ' ') {
                tokens.add(text.substring(i, j));
                places.add(i);
            }
            i = j;
        }
        tokens.add("");
        places.add(text.length());
    }

    private static int sort(char c) {
        return c >= '0' && c <= '9' ? 1 : c >= 'a' && c <= 'z' ? 2 : 0;
    }

    private static boolean among(String token, String words) {
        return !token.isEmpty() && words.contains(" " + token + " ");
    }

    /** The fault's kind (0: none) and place. */
    static int[] fault(String text) {
        LawModel m = new LawModel(text);
        StringBuilder stack = new StringBuilder();
        char mode = 'S';
        int clauses = 0;
        for (int i = 0; i < m.tokens.size(); i++) {
            String t = m.tokens.get(i);
            int kind = 1;
            char top = stack.length() == 0 ? ' ' : stack.charAt(stack.length() - 1);
            long open = stack.chars().filter(c -> "(12[n".indexOf(c) >= 0).count();
            if (mode == 'B' && !t.equals("not") && !t.equals("[")) {
                stack.append('L');
                mode = 'U';
                top = 'L';
            }
            if (mode == 'A' && top == 'R' && !among(t, " + - * / ")) {
                pop(stack);
                mode = 'D';
                top = stack.charAt(stack.length() - 1);
            }
            if (mode == 'S' && t.isEmpty()) {
                return new int[] {0, -1};
            } else if (mode == 'S' && among(t, HEADS)) {
                kind = clauses == 12 ? 3 : 0;
                clauses++;
                stack.append('V');
                mode = 'U';
            } else if (mode == 'U' && !t.isEmpty() && sort(t.charAt(0)) == 1) {
                kind = t.replaceFirst("^0+", "").length() > 3 ? 2 : 0;
                mode = 'A';
            } else if (mode == 'U' && among(t, FACTS)) {
                kind = 0;
                mode = 'A';
            } else if (mode == 'U' && among(t, " least most ")) {
                kind = 0;
                mode = 'P';
            } else if ((mode == 'U' || mode == 'P') && t.equals("(")) {
                kind = open == 6 ? 3 : 0;
                stack.append(mode == 'U' ? '(' : '1');
                mode = 'U';
            } else if (mode == 'B') {
                kind = open == 6 ? 3 : 0;
                stack.append(t.equals("not") ? 'n' : '[');
            } else if (mode == 'A' && among(t, " + - * / ")) {
                kind = 0;
                mode = 'U';
            } else if (mode == 'A' && (top == '(' || top == '2') && t.equals(")")) {
                kind = 0;
                stack.setLength(stack.length() - 1);
            } else if (mode == 'A' && top == '1' && t.equals(",")) {
                kind = 0;
                stack.setCharAt(stack.length() - 1, '2');
                mode = 'U';
            } else if (mode == 'A' && top == 'V' && t.equals(";") || mode == 'D' && top == 'C' && t.equals(";")) {
                kind = 0;
                stack.setLength(0);
                mode = 'S';
            } else if (mode == 'A' && top == 'V' && t.equals("if")) {
                kind = 0;
                stack.setCharAt(0, 'C');
                mode = 'B';
            } else if (mode == 'A' && top == 'L' && among(t, " < > = ")) {
                kind = 0;
                stack.setCharAt(stack.length() - 1, 'R');
                mode = 'U';
            } else if (mode == 'D' && among(t, " and or ")) {
                kind = 0;
                mode = 'B';
            } else if (mode == 'D' && top == '[' && t.equals("]")) {
                kind = 0;
                pop(stack);
            }
            if (kind != 0) {
                return new int[] {kind, m.places.get(i)};
            }
        }
        return new int[] {1, text.length()};
    }

    /** A basic condition has ended, and with it all the nots that wait for it. */
    private static void pop(StringBuilder stack) {
        stack.setLength(stack.length() - 1);
        while (stack.charAt(stack.length() - 1) == 'n') {
            stack.setLength(stack.length() - 1);
        }
    }

    /** The clauses of a text without fault. */
    static List<Model.Clause> clauses(String text) {
        LawModel m = new LawModel(text);
        List<Model.Clause> found = new ArrayList<>();
        while (!m.tokens.get(m.next).isEmpty()) {
            Model.Clause c = new Model.Clause();
            c.word = m.take();
            c.value = m.sum();
            if (m.take().equals("if")) {
                c.when = m.either();
                m.take();
            }
            found.add(c);
        }
        return found;
    }

    private String take() {
        return tokens.get(next++);
    }

    private boolean is(String token) {
        return tokens.get(next).equals(token);
    }

    private Model.Value sum() {
        Model.Value left = product();
        while (is("+") || is("-")) {
            int sign = take().equals("+") ? 1 : -1;
            Model.Value a = left;
            Model.Value b = product();
            left = f -> a.at(f) + sign * b.at(f);
        }
        return left;
    }

    private Model.Value product() {
        Model.Value left = unit();
        while (is("*") || is("/")) {
            boolean times = take().equals("*");
            Model.Value a = left;
            Model.Value b = unit();
            left = f -> times ? a.at(f) * b.at(f) : b.at(f) == 0 ? 0 : (int) ((long) a.at(f) / b.at(f));
        }
        return left;
    }

    private Model.Value unit() {
        String t = take();
        switch (t) {
            case "age":
                return f -> f.age;
            case "there":
                return f -> f.there;
            case "right":
                return f -> f.right;
            case "shown":
                return f -> f.shown;
            case "weight":
                return f -> f.weight;
            case "talks":
                return f -> f.talks;
            case "(": {
                Model.Value inner = sum();
                take();
                return inner;
            }
            case "least":
            case "most": {
                take();
                Model.Value a = sum();
                take();
                Model.Value b = sum();
                take();
                return f -> t.equals("least") == a.at(f) < b.at(f) ? a.at(f) : b.at(f);
            }
            default:
                int n = Integer.parseInt(t);
                return f -> n;
        }
    }

    private Model.Value either() {
        Model.Value left = both();
        while (is("or")) {
            take();
            Model.Value a = left;
            Model.Value b = both();
            left = f -> Math.max(a.at(f), b.at(f));
        }
        return left;
    }

    private Model.Value both() {
        Model.Value left = basic();
        while (is("and")) {
            take();
            Model.Value a = left;
            Model.Value b = basic();
            left = f -> a.at(f) * b.at(f);
        }
        return left;
    }

    private Model.Value basic() {
        if (is("not")) {
            take();
            Model.Value a = basic();
            return f -> 1 - a.at(f);
        }
        if (is("[")) {
            take();
            Model.Value a = either();
            take();
            return a;
        }
        Model.Value a = sum();
        String r = take();
        Model.Value b = sum();
        return f -> (r.equals("<") ? a.at(f) < b.at(f) : r.equals(">") ? a.at(f) > b.at(f) : a.at(f) == b.at(f)) ? 1 : 0;
    }
}
