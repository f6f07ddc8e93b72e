import java.util.Random;

/** Draws a LAW's TEXT, now and then one that can't be. */
final class LawText {
    private static final String[] WORDS =
            {"kind", "rise", "high", "trees", "screen", "x", "y", "way", "off"};
    private static final String[] ALL = {"quick", "if", "or", "and", "not", "kind", "rise", "high",
        "trees", "screen", "x", "y", "way", "off", "(", ")", "[", "]", "<", ">", "=", "+", "-",
        "*", "/", ";", "1", "1000", "1001", "007", "00000000000000000001", "quic", "A", "#", "\t",
        "\u00e4", "_", "xx"};

    private final Random random;
    private final StringBuilder text = new StringBuilder();
    private int big = 30;

    LawText(Random random) {
        this.random = random;
    }

    String text() {
        int clauses = random.nextInt(12) == 0 ? 10 + random.nextInt(5) : 1 + random.nextInt(4);
        if (clauses > 5) {
            big = 0;
        }
        for (int i = 0; i < clauses; i++) {
            if (i > 0) {
                say(";");
            }
            say("quick");
            sum(0);
            if (random.nextInt(4) != 0) {
                say("if");
                test(0);
            }
        }
        if (random.nextInt(4) == 0) {
            spoil();
        }
        return text.length() > 400 ? text.substring(0, 400) : text.toString();
    }

    private void spoil() {
        int sort = random.nextInt(4);
        int at = random.nextInt(text.length() + 1);
        if (sort == 0) {
            text.setLength(at);
        } else if (sort == 1) {
            text.insert(at, ALL[random.nextInt(ALL.length)]);
        } else if (sort == 2 && at < text.length()) {
            text.deleteCharAt(at);
        } else {
            int n = 1 + random.nextInt(12);
            String open = random.nextBoolean() ? "[" : random.nextBoolean() ? "(" : "not ";
            for (int i = 0; i < n; i++) {
                text.insert(at, open);
            }
        }
    }

    private void say(String token) {
        boolean needs = text.length() > 0 && isWord(text.charAt(text.length() - 1))
                && isWord(token.charAt(0));
        if (needs || random.nextInt(4) == 0) {
            text.append(random.nextInt(8) == 0 ? "  " : " ");
        }
        text.append(token);
    }

    private static boolean isWord(char c) {
        return Character.isLetterOrDigit(c);
    }

    private void test(int depth) {
        both(depth);
        while (random.nextInt(4) == 0) {
            say("or");
            both(depth);
        }
    }

    private void both(int depth) {
        plain(depth);
        while (random.nextInt(4) == 0) {
            say("and");
            plain(depth);
        }
    }

    private void plain(int depth) {
        int draw = random.nextInt(8);
        if (draw == 0) {
            say("not");
            plain(depth);
        } else if (draw == 1 && depth < 9 && big-- > 0) {
            say("(");
            test(depth + 1);
            say(")");
        } else {
            sum(depth);
            say(new String[] {"<", ">", "="}[random.nextInt(3)]);
            sum(depth);
        }
    }

    private void sum(int depth) {
        term(depth);
        while (random.nextInt(3) == 0) {
            say(random.nextBoolean() ? "+" : "-");
            term(depth);
        }
    }

    private void term(int depth) {
        part(depth);
        while (random.nextInt(4) == 0) {
            say(random.nextInt(3) == 0 ? "/" : "*");
            part(depth);
        }
    }

    private void part(int depth) {
        int draw = random.nextInt(10);
        if (draw == 0 && depth < 9 && big-- > 0) {
            say("[");
            sum(depth + 1);
            say("]");
        } else if (draw < 5) {
            int size = random.nextInt(4);
            int number = size == 0 ? 1000 : size == 1 ? random.nextInt(1001) : random.nextInt(12);
            say(String.valueOf(number));
        } else {
            say(WORDS[random.nextInt(WORDS.length)]);
        }
    }
}
