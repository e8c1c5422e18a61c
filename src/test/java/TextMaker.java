import java.util.Random;

/** Draws texts: right ones by the grammar, and ones with a few bytes or tokens gone wrong. */
final class TextMaker {
    private static final String[] SOUP = {"loses", "waits", "block", "of", "open", "cancel", "by", "day", ";", "(", ")", "+",
        "-", "*", "/", "<", "<=", ">", ">=", "=", "#", "if", "then", "else", "end", "not", "and", "or", "claimed", "come",
        "clock", "sun", "kind", "number", "delay", "bytes", "tried", "0", "1", "2", "3", "30", "31", "9999", "10000", "x", "!"};
    private final Random draw;
    private String lastName;

    TextMaker(Random draw) {
        this.draw = draw;
    }

    private boolean chance(int of) {
        return draw.nextInt(of) == 0;
    }

    String text() {
        StringBuilder text = new StringBuilder();
        boolean loses = false;
        boolean waits = false;
        int clauses = draw.nextInt(6);
        for (int i = 0; i < clauses && text.length() < 200; i++) {
            int which = draw.nextInt(7);
            if (which == 0 && !loses) {
                loses = true;
                lastName = "bytes";
                text.append("loses ").append(sum(3)).append("; ");
            } else if (which == 1 && !waits) {
                waits = true;
                lastName = "tried";
                text.append("waits ").append(sum(3)).append(";\n");
            } else {
                text.append(deed());
            }
        }
        return text.length() > 300 ? "loses 1;" : text.toString();
    }

    String law() {
        lastName = "bytes";
        String loses = chance(3) ? "" : "loses " + sum(3) + ";";
        lastName = "tried";
        String both = loses + (chance(3) ? "" : "waits " + sum(3) + ";");
        return both.length() > 300 ? "loses 1; waits 6;" : both;
    }

    private String deed() {
        switch (draw.nextInt(5)) {
            case 0:
                int length = 1 + draw.nextInt(30);
                return "block " + draw.nextInt(length + 1) + " of " + length + ";";
            case 1:
                return "open " + draw.nextInt(3) + ";";
            case 2:
                return "cancel " + draw.nextInt(3) + " by " + draw.nextInt(2) + ";";
            default:
                return "day " + (1 + draw.nextInt(30)) + " ; ";
        }
    }

    private String sum(int depth) {
        String sum = product(depth);
        for (int n = draw.nextInt(3); n > 1; n--) {
            sum += (chance(2) ? " + " : "-") + product(depth);
        }
        return sum;
    }

    private String product(int depth) {
        String product = one(depth);
        for (int n = draw.nextInt(4); n > 2; n--) {
            product += (chance(2) ? "*" : " / ") + one(depth);
        }
        return product;
    }

    private String one(int depth) {
        int which = draw.nextInt(depth > 0 ? 9 : 4);
        switch (which) {
            case 0:
            case 1:
                return String.valueOf(chance(9) ? draw.nextInt(10000) : draw.nextInt(12));
            case 2:
            case 3:
                String[] names = {"clock", "sun", "kind", "number", "delay", lastName};
                return names[draw.nextInt(6)];
            case 4:
                return "(" + sum(depth - 1) + ")";
            case 5:
                return "-" + one(depth - 1);
            case 6:
                return "claimed " + one(depth - 1);
            case 7:
                return "come " + one(depth - 1);
            default:
                return "if " + either(depth - 1) + " then " + sum(depth - 1) + " else " + sum(depth - 1) + " end";
        }
    }

    private String either(int depth) {
        return both(depth) + (chance(3) ? " or " + both(depth) : "") + (chance(6) ? " or " + both(depth) : "");
    }

    private String both(int depth) {
        return asked(depth) + (chance(3) ? " and " + asked(depth) : "");
    }

    private String asked(int depth) {
        String[] signs = {"<", "<=", ">", ">=", "=", "#"};
        return (chance(4) ? "not " : "") + sum(depth) + " " + signs[draw.nextInt(6)] + " " + sum(depth);
    }

    /** A right text with something put in, left out or cut off, or a row of any tokens. */
    String wrongText() {
        String text = chance(2) ? law() : text();
        int changes = 1 + draw.nextInt(2);
        for (int i = 0; i < changes; i++) {
            int at = draw.nextInt(text.length() + 1);
            switch (draw.nextInt(4)) {
                case 0:
                    text = text.substring(0, at) + SOUP[draw.nextInt(SOUP.length)] + " " + text.substring(at);
                    break;
                case 1:
                    text = text.substring(0, at);
                    break;
                case 2:
                    text = text.substring(0, at) + text.substring(Math.min(text.length(), at + 1 + draw.nextInt(4)));
                    break;
                default:
                    text = text.substring(0, at) + (char) draw.nextInt(256) + text.substring(at);
                    break;
            }
        }
        if (chance(3)) {
            text = chance(2) ? soup() : chance(2) ? deep() : crowded();
        }
        return text.length() > 300 ? text.substring(0, 300) : text;
    }

    /** Seven to ten that are open around one another, of every sort that opens. */
    private String deep() {
        String[] heads = {"(", "-", "come ", "claimed ", "if not not ", "if 1 = 1 and ", "if 1=1 then ", "if 1=1 then 2 else "};
        String[] tails = {")", "", "", "", "= 1 then 2 else 3 end", " = 4 then 2 else 3 end", " else 5 end", " end"};
        String deep = chance(2) ? "clock" : "tried";
        for (int n = 5 + draw.nextInt(6); n > 0; n--) {
            int which = draw.nextInt(heads.length);
            deep = heads[which] + deep + tails[which];
        }
        return (chance(2) ? "loses " : "waits ") + deep + ";";
    }

    /** About as many clauses as there may be, a law or two among them. */
    private String crowded() {
        StringBuilder crowded = new StringBuilder();
        int last = 23 + draw.nextInt(3);
        int law = draw.nextInt(last + 1);
        int other = draw.nextInt(last + 1);
        for (int i = 0; i < last; i++) {
            crowded.append(i == law || chance(30) ? "loses 3;" : i == other ? "waits 9;" : "day 1;");
        }
        return crowded.append(chance(3) ? "x" : chance(2) ? "" : "day 1").toString();
    }

    private String soup() {
        StringBuilder soup = new StringBuilder(chance(2) ? "loses " : "");
        for (int n = draw.nextInt(20); n > 0; n--) {
            soup.append(SOUP[draw.nextInt(SOUP.length)]).append(chance(3) ? "" : " ");
        }
        return soup.toString();
    }
}
