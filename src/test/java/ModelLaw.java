import java.util.ArrayList;
import java.util.List;
import java.util.Map;

/** A LAW for the model: the text is first cut into tokens, then a tree is made of them. */
final class ModelLaw {
    private static final List<String> SORTS = List.of("yes", "price", "nods", "quarrel", "peace");
    private static final List<String> WORDS =
            List.of("like", "mate", "worth", "use", "owns", "coin", "day", "given", "shared", "near", "year");

    private record Token(String text, int place) { }

    private static final class Node {
        String what;
        Node left;
        Node right;

        Node(String what, Node left, Node right) {
            this.what = what;
            this.left = left;
            this.right = right;
        }
    }

    private static final class Clause {
        String sort;
        Node sum;
        Node test;
    }

    private static final class Fault extends RuntimeException {
        private static final long serialVersionUID = 1L;
        final int fault;

        Fault(Token at, int sort) {
            fault = 1 + 8 * at.place + sort;
        }
    }

    final int fault;
    private final List<Token> tokens = new ArrayList<>();
    private final List<Clause> clauses = new ArrayList<>();
    private int at;
    private int counted;

    ModelLaw(List<Integer> bytes) {
        cut(bytes);
        int found = 0;
        try {
            clause();
            while (!peek().text.isEmpty()) {
                if (!take(";")) {
                    throw new Fault(peek(), 0);
                }
                clause();
            }
        } catch (Fault f) {
            found = f.fault;
        }
        fault = found;
    }

    private static boolean letter(int b) {
        return b >= 97 && b <= 122;
    }

    private static boolean digit(int b) {
        return b >= 48 && b <= 57;
    }

    /** Runs of letters, runs of digits, <= and >=, else single bytes; an empty one is the end. */
    private void cut(List<Integer> bytes) {
        int i = 0;
        while (i < bytes.size()) {
            int from = i;
            int b = bytes.get(i++);
            StringBuilder text = new StringBuilder().append((char) b);
            if (letter(b)) {
                while (i < bytes.size() && letter(bytes.get(i))) {
                    text.append((char) (int) bytes.get(i++));
                }
            } else if (digit(b)) {
                while (i < bytes.size() && digit(bytes.get(i))) {
                    text.append((char) (int) bytes.get(i++));
                }
            } else if ((b == '<' || b == '>') && i < bytes.size() && bytes.get(i) == '=') {
                text.append('=');
                i++;
            }
            if (b != 32) {
                tokens.add(new Token(text.toString(), from));
            }
        }
        tokens.add(new Token("", bytes.size()));
    }

    private Token peek() {
        return tokens.get(at);
    }

    private boolean take(String text) {
        if (peek().text.equals(text)) {
            at++;
            return true;
        }
        return false;
    }

    private void clause() {
        Token first = peek();
        if (!SORTS.contains(first.text)) {
            throw new Fault(first, 0);
        }
        if (clauses.size() == 12) {
            throw new Fault(first, 4);
        }
        at++;
        Clause c = new Clause();
        c.sort = first.text;
        c.sum = sum();
        if (take("if")) {
            c.test = test(0);
        }
        clauses.add(c);
    }

    private Node test(int depth) {
        Node left = part(depth);
        while (take("or")) {
            left = new Node("or", left, part(depth));
        }
        return left;
    }

    private Node part(int depth) {
        Node left = fact(depth);
        while (take("and")) {
            left = new Node("and", left, fact(depth));
        }
        return left;
    }

    private Node fact(int depth) {
        Token first = peek();
        if (first.text.equals("not") || first.text.equals("[")) {
            if (depth == 10) {
                throw new Fault(first, 2);
            }
            at++;
            if (first.text.equals("not")) {
                return new Node("not", fact(depth + 1), null);
            }
            Node inside = test(depth + 1);
            if (!take("]")) {
                throw new Fault(peek(), 0);
            }
            return inside;
        }
        Node left = sum();
        Token sign = peek();
        if (!List.of("<", "<=", "=", ">=", ">").contains(sign.text)) {
            throw new Fault(sign, 0);
        }
        if (++counted > 60) {
            throw new Fault(sign, 3);
        }
        at++;
        return new Node(sign.text, left, sum());
    }

    private Node sum() {
        Node left = term();
        while (peek().text.equals("+") || peek().text.equals("-")) {
            String sign = tokens.get(at++).text;
            left = new Node(sign, left, term());
        }
        return left;
    }

    private Node term() {
        Node left = value();
        while (peek().text.equals("*") || peek().text.equals("/")) {
            String sign = tokens.get(at++).text;
            left = new Node(sign, left, value());
        }
        return left;
    }

    private Node value() {
        Token first = peek();
        boolean number = !first.text.isEmpty() && digit(first.text.charAt(0));
        if (!number && !WORDS.contains(first.text)) {
            throw new Fault(first, 0);
        }
        if (number && first.text.length() > 5) {
            throw new Fault(first, 1);
        }
        if (++counted > 60) {
            throw new Fault(first, 3);
        }
        at++;
        return new Node(first.text, null, null);
    }

    private static boolean holds(Node n, Map<String, Long> words) {
        switch (n.what) {
            case "not": return !holds(n.left, words);
            case "and": return holds(n.left, words) && holds(n.right, words);
            case "or": return holds(n.left, words) || holds(n.right, words);
            case "<": return number(n.left, words) < number(n.right, words);
            case "<=": return number(n.left, words) <= number(n.right, words);
            case "=": return number(n.left, words) == number(n.right, words);
            case ">=": return number(n.left, words) >= number(n.right, words);
            default: return number(n.left, words) > number(n.right, words);
        }
    }

    private static long number(Node n, Map<String, Long> words) {
        if (n.left == null) {
            return digit(n.what.charAt(0)) ? Long.parseLong(n.what) : words.getOrDefault(n.what, 0L);
        }
        long a = number(n.left, words);
        long b = number(n.right, words);
        switch (n.what) {
            case "+": return a + b;
            case "-": return a - b;
            case "*": return a * b;
            default: return b == 0 ? 0 : a / b;
        }
    }

    long sum(String sort, Map<String, Long> words) {
        for (Clause c : clauses) {
            if (c.sort.equals(sort) && (c.test == null || holds(c.test, words))) {
                return number(c.sum, words);
            }
        }
        return sort.equals("nods") ? 2 : 0;
    }
}
