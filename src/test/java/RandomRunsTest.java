import java.lang.reflect.Method;
import java.util.ArrayList;
import java.util.List;
import java.util.Random;

/** Many runs of calls by a fixed seed: each answer of the class is compared with the Model's. */
public final class RandomRunsTest {
    private static final int RUNS = Integer.getInteger("listenwells.runs", 1500);
    private static final long FIRST_SEED = Long.getLong("listenwells.seed", 1L);

    private final Random random;
    private final ListenWells real = new ListenWells();
    private final Model model = new Model();
    private final List<String> calls = new ArrayList<>();

    private RandomRunsTest(long seed) {
        random = new Random(seed);
    }

    public static void main(String[] args) throws Exception {
        for (int run = 0; run < RUNS; run++) {
            new RandomRunsTest(FIRST_SEED + run).run(FIRST_SEED + run);
        }
        Check.end("RandomRunsTest");
    }

    private void run(long seed) throws Exception {
        // an object is used for at most 512 calls, and a step may take some thirty
        int deeds = 20 + random.nextInt(460);
        if (random.nextInt(4) != 0) {
            prepare();
        }
        while (calls.size() < deeds) {
            if (!step()) {
                System.out.println("seed " + seed + ": " + String.join("; ", calls));
                return;
            }
        }
    }

    private int below(int n) {
        return random.nextInt(n);
    }

    /** Mostly a number that can be, at times one beside, seldom one far off. */
    private int number(int least, int most) {
        int dice = below(40);
        if (dice == 0) {
            return least - 1 - below(2);
        }
        if (dice == 1) {
            return most + 1 + below(2);
        }
        if (dice == 2 && below(4) == 0) {
            return random.nextInt();
        }
        return least + below(most - least + 1);
    }

    /** Mostly one that there is, of SHAFTS, LISTENERS, NOISES (as count() numbers them). */
    private int one(int what) {
        int there = model.count(what);
        return there > 0 && below(12) != 0 ? below(there) : number(0, 5);
    }

    private boolean call(String name, Object... numbers) throws Exception {
        Class<?>[] types = new Class<?>[numbers.length];
        StringBuilder text = new StringBuilder(name).append('(');
        for (int i = 0; i < numbers.length; i++) {
            types[i] = numbers[i] instanceof Long ? long.class : int.class;
            text.append(i == 0 ? "" : ", ").append(numbers[i]);
        }
        calls.add(text.append(')').toString());
        Method of = ListenWells.class.getMethod(name, types);
        Method due = Model.class.getDeclaredMethod(name, types);
        long got = ((Number) of.invoke(real, numbers)).longValue();
        long want = ((Number) due.invoke(model, numbers)).longValue();
        Check.due(text.toString(), got, want);
        return got == want;
    }

    private void prepare() throws Exception {
        for (int k = below(30); k > 0; k--) {
            int cell = below(40);
            call("put", cell, 0, below(4));
            call("put", cell, 2, below(100));
            if (below(2) == 0) {
                call("put", below(40), 1, 1 + below(9));
            }
        }
        for (int k = below(5); k > 0; k--) {
            call("sink", below(8));
            call("listener", below(8), below(21));
            call("noise", below(8), below(21));
        }
    }

    private boolean step() throws Exception {
        switch (below(46)) {
            case 0: return call("put", number(0, 39), number(0, 2), number(0, 12));
            case 1: return call("put", number(0, 39), 0, number(0, 3));
            case 2: return call("put", number(0, 39), 2, number(0, 99));
            case 3: return call("at", number(0, 39), number(0, 5));
            case 4: return call("at", number(0, 39), 4 + below(2));
            case 5: return below(4) == 0 ? call("sink", number(0, 7)) : call("of", one(0), number(0, 4));
            case 6: return call("of", one(0), number(0, 4));
            case 7: return below(5) == 0 ? call("listener", number(0, 7), number(0, 20)) : call("who", one(1), number(0, 4));
            case 8: return below(5) == 0 ? call("noise", number(0, 7), number(0, 20)) : call("who", one(2), number(0, 4));
            case 9: return below(4) == 0 ? terms() : call("mud");
            case 10: return row();
            case 11:
            case 12:
            case 13: return below(6) == 0 ? text(Texts.rule(random), "law") : law();
            case 14:
            case 15:
            case 16: return text(Texts.orders(random), "orders") && call("stopped") && call("fault");
            case 17: return call("force", number(-1, 2));
            case 18: return call("asks", one(0), number(0, 39), number(0, 2));
            case 19: return call("asks", one(0), number(0, 39), below(3));
            case 20: return call("loud", number(0, 39), number(0, 7));
            case 21: return call("din", number(0, 7)) && call("hears", one(1));
            case 22: return call("hears", one(1));
            case 23:
            case 24:
            case 25: return call("dig", one(0), number(0, 2));
            case 26:
            case 27: return call("haul", one(0));
            case 28: return call("hush", one(2));
            case 29: return call("lie", one(1), number(0, 7));
            case 30: return call("undo") && call("count", 7);
            case 31: return call("down", one(0), number(0, 39), number(0, 9));
            case 32: return call("down", one(0), below(40), below(4));
            case 33: return gangs();
            case 34: return quiet();
            case 35: return heard();
            case 36: return below(6) == 0 ? call("forget") : call("hidden");
            case 37: return call("next", number(0, 1));
            case 38: return call("well", number(0, 63), number(0, 1)) && call("tongue", number(0, 1));
            case 39: return call("vein", number(0, 39), number(0, 2));
            case 40: return call("time", one(0), number(0, 39), number(0, 200));
            case 41: return call("compare", number(-1, 2));
            case 42: return call("seasons", number(0, 1000000), number(1, 60)) && call("drawn", number(0, 5), number(0, 2));
            case 43: return call(below(2) == 0 ? "image" : "back", number(0, 1));
            case 44: return call("count", number(0, 17));
            default: return call("status");
        }
    }

    private boolean terms() throws Exception {
        int what = number(0, 2);
        return call("terms", what, what == 0 ? below(8) == 0 ? number(9900, 9999) : number(0, 300) : number(0, 10));
    }

    private boolean row() throws Exception {
        if (below(3) != 0) {
            return call("row");
        }
        StringBuilder text = new StringBuilder();
        for (int k = below(46); k >= 0; k--) {
            text.append((char) (below(9) == 0 ? below(256) : below(4)));
            text.append((char) (below(9) == 0 ? below(256) : 1 + below(9)));
            text.append((char) (below(9) == 0 ? below(256) : below(100)));
        }
        text.setLength(text.length() - below(3));
        return text(text.toString(), "row") && call("mud");
    }

    private boolean law() throws Exception {
        return text(Texts.law(random), "law") && call("fault") && call("force", below(7) - 1);
    }

    private boolean gangs() throws Exception {
        long cells = 0;
        for (int k = below(2 + model.count(0)); k > 0; k--) {
            cells |= 1L << below(below(30) == 0 ? 64 : 40);
        }
        return call("gangs", cells, number(0, 6));
    }

    private boolean quiet() throws Exception {
        int listeners = below(4) == 0 ? number(0, 7) : below(1 << model.count(1));
        int cell = number(0, 39);
        for (int n = 0; n < 20 && model.at(cell, 0) != 3 && below(9) != 0; n++) {
            cell = below(40);
        }
        return call("quiet", listeners, cell, number(0, 1));
    }

    /** Mostly what a spring in a cell would be heard like. */
    private boolean heard() throws Exception {
        if (below(3) == 0) {
            return call("heard", number(0, 7), number(0, 99));
        }
        int column = below(8);
        return call("heard", column, Math.max(0, Math.min(99, model.loud(below(40), column))));
    }

    private boolean text(String text, String end) throws Exception {
        String cut = text.length() > 400 ? text.substring(0, 400) : text;
        boolean good = call("end", 0);
        for (int i = 0; i < cut.length() && good; i += 20) {
            good = call("feed", four(cut, i), four(cut, i + 4), four(cut, i + 8), four(cut, i + 12), four(cut, i + 16));
        }
        return good && call("end", cut.length()) && call(end);
    }

    private static int four(String text, int from) {
        int number = 0;
        for (int i = from; i < from + 4; i++) {
            number = number << 8 | (i < text.length() ? text.charAt(i) & 255 : ' ');
        }
        return number;
    }
}
