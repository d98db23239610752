import java.util.Random;

/** Texts of both languages by a random source; at times with a slip in them. */
final class Texts {
    private static final String[] LAW_WORDS = {"cell", "column", "depth", "kind", "hard", "water", "shaft", "day", "mood"};

    private final Random random;
    private final boolean orders;

    private Texts(Random random, boolean orders) {
        this.random = random;
        this.orders = orders;
    }

    static String law(Random random) {
        Texts t = new Texts(random, false);
        StringBuilder text = new StringBuilder(t.rule());
        for (int n = random.nextInt(random.nextInt(8) == 0 ? 14 : 5); n > 0; n--) {
            text.append(';').append(t.rule());
        }
        return t.slip(text.toString());
    }

    static String rule(Random random) {
        return new Texts(random, false).rule();
    }

    static String orders(Random random) {
        Texts t = new Texts(random, true);
        StringBuilder text = new StringBuilder(t.order());
        for (int n = random.nextInt(random.nextInt(8) == 0 ? 14 : 4); n > 0; n--) {
            text.append(';').append(t.order());
        }
        return t.slip(text.toString());
    }

    private int below(int n) {
        return random.nextInt(n);
    }

    private String slip(String text) {
        if (below(4) != 0) {
            return text;
        }
        String[] pieces = {"", " ", ";", "(", ")", "[", "]", "not ", " and ", " or ", " if ", "1001", "7", "times", "by",
            " in ", "at ", "column", "x", "A", "<", "=", "\n", "\u00e9", "\0", " says ", "haul", "+", "%"};
        int from = below(text.length() + 1);
        int to = Math.min(text.length(), from + below(4));
        return text.substring(0, from) + pieces[below(pieces.length)] + text.substring(to);
    }

    private String blank() {
        return below(3) == 0 ? "" : " ";
    }

    private String rule() {
        String[] verbs = {"says", "loses", "digs", "gives", "passes"};
        String verb = verbs[below(5)];
        String rule = verb.equals("passes") ? verb : verb + " " + sum(3);
        return below(2) == 0 ? rule : rule + " if " + test(3);
    }

    private String order() {
        String order;
        switch (below(4)) {
            case 0: order = "dig " + who(5) + " by " + who(3); break;
            case 1: order = "haul " + who(5); break;
            case 2: order = "hush " + who(5); break;
            default: order = "lie " + who(4) + " in " + who(7); break;
        }
        if (below(3) == 0) {
            order += " times " + (below(20) == 0 ? below(30) : 1 + below(5));
        }
        return below(2) == 0 ? order + " if " + test(2) : order;
    }

    private String who(int most) {
        return below(3) == 0 ? sum(2) : String.valueOf(below(most));
    }

    private String sum(int depth) {
        StringBuilder sum = new StringBuilder(part(depth));
        for (int n = below(3); n > 0; n--) {
            sum.append(blank()).append("+-*/%".charAt(below(5))).append(blank()).append(part(depth));
        }
        return sum.toString();
    }

    private String part(int depth) {
        if (depth > 0 && below(5) == 0) {
            return "[" + sum(depth - (below(3) == 0 ? 0 : 1)) + "]";
        }
        if (below(2) == 0) {
            return String.valueOf(below(6) == 0 ? below(1001) : below(12));
        }
        if (!orders) {
            return LAW_WORDS[below(LAW_WORDS.length)];
        }
        switch (below(6)) {
            case 0: return "day";
            case 1: return "done";
            case 2: return "latest";
            case 3: return "at " + below(below(20) == 0 ? 8 : 6);
            case 4: return "buckets " + below(6);
            default: return "column " + below(below(20) == 0 ? 8 : 5);
        }
    }

    private String test(int depth) {
        StringBuilder test = new StringBuilder(plain(depth));
        for (int n = below(3); n > 0; n--) {
            test.append(below(2) == 0 ? " or " : " and ").append(plain(depth));
        }
        return test.toString();
    }

    private String plain(int depth) {
        if (below(5) == 0) {
            return "not " + plain(depth);
        }
        if (depth > 0 && below(4) == 0) {
            return "(" + test(depth - 1) + ")";
        }
        return sum(depth) + blank() + "<>=".charAt(below(3)) + blank() + sum(depth);
    }
}
