import java.util.ArrayList;
import java.util.List;
import java.util.Set;

/** The language of part II, written a second time and in another way, as a tree that is asked. */
final class ModelText {
    /** What a law may ask. */
    interface World {
        long named(String name);

        long bytes(String which, long block);
    }

    interface Node {
        long ask(World world);
    }

    static final class Fault extends RuntimeException {
        private static final long serialVersionUID = 1;
        final int sort;
        final int place;

        Fault(int sort, int place) {
            this.sort = sort;
            this.place = place;
        }
    }

    record Token(String word, int place) {
        boolean number() {
            return !word.isEmpty() && Character.isDigit(word.charAt(0));
        }

        int value() {
            return new java.math.BigInteger(word).min(java.math.BigInteger.valueOf(1000000)).intValue();
        }
    }

    record Clause(String word, int first, int second) {
    }

    private static final Set<String> NAMES = Set.of("clock", "sun", "kind", "number", "delay", "bytes", "tried");

    Node loses;
    Node waits;
    final List<Clause> clauses = new ArrayList<>();
    private final List<Token> tokens = new ArrayList<>();
    private int next;
    private int open;
    private String stranger;

    ModelText(String text) {
        cut(text);
        while (!peek().isEmpty()) {
            clause();
        }
    }

    private void cut(String text) {
        java.util.regex.Matcher found =
            java.util.regex.Pattern.compile("[ \n]+|[a-zA-Z]+|[0-9]+|<=|>=|(?s:.)").matcher(text);
        while (found.find()) {
            if (!found.group().isBlank() || !found.group().matches("[ \n]+")) {
                tokens.add(new Token(found.group(), found.start()));
            }
        }
        tokens.add(new Token("", text.length()));
    }

    private String peek() {
        return tokens.get(next).word;
    }

    private Fault fault(int sort) {
        return new Fault(sort, tokens.get(next).place);
    }

    private boolean goes(String word) {
        if (!peek().equals(word)) {
            return false;
        }
        next++;
        return true;
    }

    private void need(String word) {
        if (!goes(word)) {
            throw fault(1);
        }
    }

    private int number(int least, int most) {
        Token token = tokens.get(next);
        if (!token.number()) {
            throw fault(1);
        }
        if (token.value() < least || token.value() > most) {
            throw fault(2);
        }
        next++;
        return token.value();
    }

    private void clause() {
        String word = peek();
        if (!Set.of("loses", "waits", "block", "open", "cancel", "day").contains(word)) {
            throw fault(1);
        }
        if (word.equals("loses") && loses != null || word.equals("waits") && waits != null) {
            throw fault(4);
        }
        if (clauses.size() == 24) {
            throw fault(6);
        }
        next++;
        int first = 0;
        int second = 0;
        switch (word) {
            case "loses" -> {
                stranger = "tried";
                loses = sum();
            }
            case "waits" -> {
                stranger = "bytes";
                waits = sum();
            }
            case "block" -> {
                first = number(0, 30);
                need("of");
                second = number(first == 0 ? 1 : first, 30);
            }
            case "open" -> first = number(0, 2);
            case "cancel" -> {
                first = number(0, 2);
                need("by");
                second = number(0, 1);
            }
            default -> first = number(1, 30);
        }
        need(";");
        clauses.add(new Clause(word, first, second));
    }

    private static long cap(long value) {
        return value > 1000000 ? 1000000 : value < -1000000 ? -1000000 : value;
    }

    private Node sum() {
        Node left = product();
        while (peek().equals("+") || peek().equals("-")) {
            boolean plus = goes("+") || !goes("-");
            Node a = left;
            Node b = product();
            left = world -> cap(plus ? a.ask(world) + b.ask(world) : a.ask(world) - b.ask(world));
        }
        return left;
    }

    private Node product() {
        Node left = one();
        while (peek().equals("*") || peek().equals("/")) {
            boolean times = goes("*") || !goes("/");
            Node a = left;
            Node b = one();
            left = world -> {
                long x = a.ask(world);
                long y = b.ask(world);
                if (times) {
                    return cap(x * y);
                }
                return y == 0 ? 0 : x / y;
            };
        }
        return left;
    }

    private void opened() {
        if (open == 8) {
            throw fault(3);
        }
        open++;
        next++;
    }

    private Node one() {
        String word = peek();
        if (tokens.get(next).number()) {
            int value = number(0, 9999);
            return world -> value;
        }
        if (NAMES.contains(word)) {
            if (word.equals(stranger)) {
                throw fault(5);
            }
            next++;
            return world -> world.named(word);
        }
        Node inner;
        switch (word) {
            case "(" -> {
                opened();
                inner = sum();
                need(")");
            }
            case "-" -> {
                opened();
                Node negated = one();
                inner = world -> -negated.ask(world);
            }
            case "claimed", "come" -> {
                opened();
                Node which = one();
                inner = world -> world.bytes(word, which.ask(world));
            }
            case "if" -> {
                opened();
                Node condition = either();
                need("then");
                Node yes = sum();
                need("else");
                Node no = sum();
                need("end");
                inner = world -> condition.ask(world) == 1 ? yes.ask(world) : no.ask(world);
            }
            default -> throw fault(1);
        }
        open--;
        return inner;
    }

    private Node either() {
        Node left = both();
        while (goes("or")) {
            Node a = left;
            Node b = both();
            left = world -> a.ask(world) + b.ask(world) > 0 ? 1 : 0;
        }
        return left;
    }

    private Node both() {
        Node left = asked();
        while (goes("and")) {
            Node a = left;
            Node b = asked();
            left = world -> a.ask(world) + b.ask(world) == 2 ? 1 : 0;
        }
        return left;
    }

    private Node asked() {
        if (peek().equals("not")) {
            opened();
            Node a = asked();
            open--;
            return world -> a.ask(world) == 1 ? 0 : 1;
        }
        Node a = sum();
        String sign = peek();
        if (!Set.of("<", "<=", ">", ">=", "=", "#").contains(sign)) {
            throw fault(1);
        }
        next++;
        Node b = sum();
        return world -> holds(sign, Long.compare(a.ask(world), b.ask(world))) ? 1 : 0;
    }

    private static boolean holds(String sign, int order) {
        return switch (sign) {
            case "<" -> order < 0;
            case "<=" -> order <= 0;
            case ">" -> order > 0;
            case ">=" -> order >= 0;
            case "=" -> order == 0;
            default -> order != 0;
        };
    }
}
