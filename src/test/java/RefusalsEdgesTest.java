import java.util.function.ToIntFunction;

/** Terms I, promises 44 and 45: by what a call is REFUSED, which comes first, and that all is left as it was. */
public final class RefusalsEdgesTest {
    private static final int[] REASONS = {-1, -2, -3, -5, -6};

    public static void main(String[] args) {
        leavesAllAsItWas();
        leavesAllAsItWasWhenFull();
        leavesAllAsItWasWhenBare();
        firstInOrder();
        statusOfEach();
        statusOfOthers();
        questionsAreNotRefused();
        ordersAreRefusedOnce();
        countsOthers();
        Check.end("RefusalsEdgesTest");
    }

    /** Something of everything; shaft 0 has found, shaft 1 has not, noise 1 is hushed. */
    private static ListenWells busy() {
        ListenWells x = new ListenWells();
        x.put(10, 0, 3);
        x.put(10, 2, 12);
        x.put(5, 0, 1);
        x.sink(2);
        x.sink(0);
        x.listener(1, 5);
        x.noise(3, 9);
        x.noise(4, 2);
        Check.tape(x, "\1\1\1\1");
        x.row();
        x.heard(2, 14);
        x.well(5, 1);
        x.well(4, 0);
        Check.law(x, "says 30");
        x.force(0);
        x.seasons(5, 30);
        x.image(0);
        x.dig(0, 1);
        x.haul(0);
        x.hush(1);
        x.lie(0, 6);
        Check.orders(x, "lie 0 in 1;hush 9");
        Check.law(x, "says 1 +");
        x.sink(7);
        x.lie(0, 7);
        return x;
    }

    private static ListenWells full() {
        ListenWells x = new ListenWells();
        x.put(7, 0, 1);
        for (int k = 0; k < 10; k++) {
            x.sink(k % 6);
            x.listener(k % 8, k);
            x.noise(k % 8, k);
            x.heard(k % 8, 18);
            x.well(k, 1);
            Check.law(x, "says " + k);
        }
        return x;
    }

    /** One call that is REFUSED, on its own object: its answer, status, counts; all else as on another such object. */
    private static void refused(String call, int by, ListenWells before, ListenWells x, ToIntFunction<ListenWells> refusedCall) {
        int[] counted = new int[REASONS.length];
        for (int k = 0; k < REASONS.length; k++) {
            counted[k] = x.count(9 + k);
        }
        Check.due(call, refusedCall.applyAsInt(x), by);
        Check.due("status behind " + call, x.status(), by);
        for (int k = 0; k < REASONS.length; k++) {
            Check.due("count(" + (9 + k) + ") behind " + call, x.count(9 + k), counted[k] + (REASONS[k] == by ? 1 : 0));
        }
        View.of(x).mustBe("behind " + call, View.of(before));
        // what can be undone is the same, too
        for (int n = 0; n < 3; n++) {
            Check.due("undo behind " + call, x.undo(), before.undo());
        }
        Check.due("column behind " + call, x.who(0, 0), before.who(0, 0));
    }

    private static void busyRefuses(String call, int by, ToIntFunction<ListenWells> refusedCall) {
        refused(call, by, busy(), busy(), refusedCall);
    }

    private static void leavesAllAsItWas() {
        Check.sentence("REFUSED by: -1 a number that can't be; -2 there is no such SHAFT, LISTENER, NOISE, LAW, IMAGE;"
            + " -3 it can't be by what stands; -5 no room; -6 a TEXT, a ROW that can't be.");
        busyRefuses("put, no cell", -1, x -> x.put(40, 0, 0));
        busyRefuses("put, no value", -1, x -> x.put(20, 1, 0));
        busyRefuses("put, a dug one", -3, x -> x.put(10, 0, 1));
        busyRefuses("sink, no column", -1, x -> x.sink(8));
        busyRefuses("sink, dug", -3, x -> x.sink(2));
        busyRefuses("sink, sand", -3, x -> x.sink(5));
        busyRefuses("listener", -1, x -> x.listener(0, 21));
        busyRefuses("noise", -1, x -> x.noise(8, 0));
        busyRefuses("terms", -1, x -> x.terms(1, 11));
        busyRefuses("row", -6, x -> x.row());
        busyRefuses("force", -2, x -> x.force(1));
        busyRefuses("dig, no way", -1, x -> x.dig(0, 3));
        busyRefuses("dig, no shaft", -2, x -> x.dig(3, 1));
        busyRefuses("dig, has found", -3, x -> x.dig(0, 1));
        busyRefuses("dig, no cell", -3, x -> x.dig(1, 0));
        busyRefuses("haul, no shaft", -2, x -> x.haul(3));
        busyRefuses("haul, not found", -3, x -> x.haul(1));
        busyRefuses("hush, no noise", -2, x -> x.hush(2));
        busyRefuses("hush, hushed", -3, x -> x.hush(1));
        busyRefuses("lie, no column", -1, x -> x.lie(0, 8));
        busyRefuses("lie, no listener", -2, x -> x.lie(1, 0));
        busyRefuses("heard", -1, x -> x.heard(0, 100));
        busyRefuses("well", -1, x -> x.well(64, 0));
        busyRefuses("seasons, no seed", -1, x -> x.seasons(1000001, 3));
        busyRefuses("seasons, no n", -1, x -> x.seasons(9, 0));
        busyRefuses("image", -1, x -> x.image(2));
        busyRefuses("back, no such number", -1, x -> x.back(2));
        busyRefuses("back, not kept", -2, x -> x.back(1));
        // these are told by fault() and stopped() in any case: the other object does them, too
        busyRefusesText("law", "says ;", -6, false);
        busyRefusesText("orders that can't be read", "lie 0 in 3;lie 0", -6, true);
        busyRefusesText("orders that can't be run", "lie 0 in 3;hush 0;dig 1 by 1;haul 0;hush 7", -3, true);
    }

    private static void busyRefusesText(String call, String text, int by, boolean orders) {
        ListenWells before = busy();
        if (orders && by == -3) {
            // stops at CLAUSE 4 as well, without having done anything
            Check.orders(before, "hush 0 if 1=2;hush 0 if 1=2;hush 0 if 1=2;hush 0 if 1=2;hush 7");
        } else if (orders) {
            Check.orders(before, " ".repeat(text.length()));
        } else {
            Check.law(before, "     ;");
        }
        refused(call, by, before, busy(), x -> orders ? Check.orders(x, text) : Check.law(x, text));
    }

    private static void fullRefuses(String call, ToIntFunction<ListenWells> refusedCall) {
        refused(call, -5, full(), full(), refusedCall);
    }

    private static void leavesAllAsItWasWhenFull() {
        Check.sentence("-5 no room");
        fullRefuses("sink", x -> x.sink(6));
        fullRefuses("listener", x -> x.listener(0, 0));
        fullRefuses("noise", x -> x.noise(0, 0));
        fullRefuses("heard", x -> x.heard(0, 0));
        fullRefuses("well", x -> x.well(0, 0));
        fullRefuses("law", x -> Check.law(x, "says 1"));
        fullRefuses("law that could not be read", x -> Check.law(x, "says"));
        fullRefuses("law of nothing", x -> x.law());
    }

    private static void leavesAllAsItWasWhenBare() {
        Check.sentence("-3 it can't be by what stands");
        refused("undo", -3, new ListenWells(), new ListenWells(), x -> x.undo());
        refused("seasons", -3, new ListenWells(), new ListenWells(), x -> x.seasons(0, 1));
    }

    private static void firstInOrder() {
        Check.sentence("The first of these in that order.");
        ListenWells x = full();
        Check.due("put: -1 ahead of -3", x.put(0, 0, 4), -1);
        Check.due("sink: -1 ahead of -5", x.sink(8), -1);
        Check.due("sink: -3 ahead of -5, dug", x.sink(0), -3);
        Check.due("sink: -3 ahead of -5, sand", x.sink(7), -3);
        Check.due("listener: -1 ahead of -5", x.listener(-1, 0), -1);
        Check.due("listener: -1 ahead of -5", x.listener(0, 21), -1);
        Check.due("noise: -1 ahead of -5", x.noise(-1, 0), -1);
        Check.due("noise: -1 ahead of -5", x.noise(0, 21), -1);
        Check.due("heard: -1 ahead of -5", x.heard(8, 0), -1);
        Check.due("heard: -1 ahead of -5", x.heard(0, 100), -1);
        Check.due("well: -1 ahead of -5", x.well(64, 0), -1);
        Check.due("well: -1 ahead of -5", x.well(0, 2), -1);
        Check.due("law: -5 ahead of -6", Check.law(x, "nonsense"), -5);
        ListenWells bare = new ListenWells();
        Check.due("dig: -1 ahead of -2", bare.dig(0, 3), -1);
        Check.due("dig: -1 ahead of -2", bare.dig(-1, -1), -1);
        Check.due("lie: -1 ahead of -2", bare.lie(0, 8), -1);
        Check.due("lie: -1 ahead of -2", bare.lie(-1, -1), -1);
        Check.due("seasons: -1 ahead of -3", bare.seasons(-1, 1), -1);
        Check.due("seasons: -1 ahead of -3", bare.seasons(0, 61), -1);
        Check.due("back: -1 ahead of -2", bare.back(2), -1);
        bare.terms(0, 9999);
        Check.due("haul: -2 ahead of -3", bare.haul(0), -2);
        Check.due("dig: -2 ahead of -3", bare.dig(0, 0), -2);
        bare.put(0, 0, 2);
        bare.sink(0);
        Check.due("dig: -1 ahead of -3", bare.dig(0, 3), -1);
    }

    private static void status(String call, int due, ToIntFunction<ListenWells> one, ListenWells x) {
        // the status ahead of it is another one in any case
        if (due == 0) {
            x.put(-1, 0, 0);
        } else {
            x.image(1);
        }
        int told = one.applyAsInt(x);
        Check.due(call + " status", x.status(), due);
        if (due != 0) {
            Check.due(call, told, due);
        }
    }

    private static void statusOfEach() {
        Check.sentence("What the latest call of put, sink, listener, noise, terms, row, law, orders, force, dig, haul, hush,"
            + " lie, undo, heard, well, seasons, image, back was REFUSED by; 0 if it was not, or ahead of any.");
        Check.due("ahead of any", new ListenWells().status(), 0);
        status("put", 0, x -> x.put(30, 0, 0), busy());
        status("put", -3, x -> x.put(2, 0, 0), busy());
        status("sink", 0, x -> x.sink(6), busy());
        status("sink", -3, x -> x.sink(2), busy());
        status("listener", 0, x -> x.listener(0, 0), busy());
        status("listener", -5, x -> x.listener(0, 0), full());
        status("noise", 0, x -> x.noise(0, 0), busy());
        status("noise", -5, x -> x.noise(0, 0), full());
        status("terms", 0, x -> x.terms(2, 0), busy());
        status("terms", -1, x -> x.terms(2, 10), busy());
        status("row", 0, x -> x.row(), taped("\4"));
        status("row", -6, x -> x.row(), busy());
        status("law", 0, x -> x.law(), taped("passes"));
        status("law", -6, x -> x.law(), busy());
        status("law", -5, x -> x.law(), full());
        status("orders", 0, x -> x.orders(), taped("haul 9 if 1=2"));
        status("orders", -3, x -> x.orders(), taped("haul 9"));
        status("orders", -6, x -> x.orders(), taped("haul"));
        status("force", 0, x -> x.force(0), busy());
        status("force that was NONE", 0, x -> x.force(-1), new ListenWells());
        status("force", -2, x -> x.force(-2), busy());
        status("dig", 0, x -> x.dig(1, 1), busy());
        status("dig", -2, x -> x.dig(7, 1), busy());
        status("haul", 0, x -> x.haul(0), busy());
        status("haul", -3, x -> x.haul(1), busy());
        status("hush", 0, x -> x.hush(0), busy());
        status("hush", -3, x -> x.hush(1), busy());
        status("lie", 0, x -> x.lie(0, 0), busy());
        status("lie", -2, x -> x.lie(4, 0), busy());
        status("undo", 0, x -> x.undo(), busy());
        status("undo", -3, x -> x.undo(), new ListenWells());
        status("heard", 0, x -> x.heard(0, 0), busy());
        status("heard", -5, x -> x.heard(0, 0), full());
        status("well", 0, x -> x.well(0, 0), busy());
        status("well", -5, x -> x.well(0, 0), full());
        status("seasons", 0, x -> x.seasons(0, 1), busy());
        status("seasons", -3, x -> x.seasons(0, 1), new ListenWells());
        status("image", 0, x -> x.image(0), busy());
        status("image", -1, x -> x.image(-1), busy());
        status("back", 0, x -> x.back(0), busy());
        status("back", -2, x -> x.back(0), new ListenWells());
    }

    private static ListenWells taped(String text) {
        ListenWells x = new ListenWells();
        Check.tape(x, text);
        return x;
    }

    private static void statusOfOthers() {
        Check.sentence("What the latest call of put, sink, listener, noise, terms, row, law, orders, force, dig, haul, hush,"
            + " lie, undo, heard, well, seasons, image, back was REFUSED by");
        ListenWells x = busy();
        x.force(5);
        askAll(x, 1);
        Check.due("others leave a refusal", x.status(), -2);
        x.force(0);
        askAll(x, 99);
        Check.due("others leave a call that was not", x.status(), 0);
    }

    /** Every call that status() does not tell of. */
    private static void askAll(ListenWells x, int n) {
        x.at(n, n);
        x.of(n, n);
        x.who(n, n);
        x.feed(n, n, n, n, n);
        x.end(n);
        x.end(0);
        x.mud();
        x.fault();
        x.stopped();
        x.asks(n, n, n);
        x.loud(n, n);
        x.din(n);
        x.hears(n);
        x.down(n, n, n);
        x.gangs(n, n);
        x.quiet(n, n, n);
        x.forget();
        x.hidden();
        x.next(n);
        x.tongue(n);
        x.vein(n, n);
        x.time(n, n, n);
        x.compare(n);
        x.drawn(n, n);
        x.count(n);
        x.status();
    }

    private static void questionsAreNotRefused() {
        Check.sentence("9 .. 13 how many calls were REFUSED by -1, -2, -3, -5, -6 (IMAGES do not keep that)");
        ListenWells x = new ListenWells();
        askAll(x, 99);
        askAll(x, -1);
        x.end(401);
        for (int k = 0; k < REASONS.length; k++) {
            Check.due("NONE is no refusal " + REASONS[k], x.count(9 + k), 0);
        }
        x.put(40, 0, 0);
        for (int n = 0; n < 2; n++) {
            x.haul(0);
        }
        for (int n = 0; n < 3; n++) {
            x.undo();
        }
        for (int n = 0; n < 14; n++) {
            x.noise(0, 0);
        }
        for (int n = 0; n < 5; n++) {
            x.row();
        }
        int[] due = {1, 2, 3, 8, 5};
        x.image(0);
        for (int k = 0; k < REASONS.length; k++) {
            Check.due("refused by " + REASONS[k], x.count(9 + k), due[k]);
        }
        x.row();
        x.force(7);
        x.back(0);
        for (int k = 0; k < REASONS.length; k++) {
            int more = k == 1 || k == 4 ? 1 : 0;
            Check.due("an image does not keep it, " + REASONS[k], x.count(9 + k), due[k] + more);
        }
    }

    private static void ordersAreRefusedOnce() {
        Check.sentence("9 .. 13 how many calls were REFUSED by -1, -2, -3, -5, -6");
        String[] texts = {"haul 0", "dig 0 by 3", "lie 0 in 8", "hush 0", "haul 1/0"};
        for (String text : texts) {
            ListenWells x = new ListenWells();
            Check.orders(x, text);
            int[] due = {0, 0, 1, 0, 0};
            for (int k = 0; k < REASONS.length; k++) {
                Check.due("orders '" + text + "', refused by " + REASONS[k], x.count(9 + k), due[k]);
            }
        }
        ListenWells x = new ListenWells();
        x.put(0, 0, 2);
        x.sink(0);
        x.seasons(3, 60);
        Check.due("what can't be in seasons is no refusal", x.count(11), 0);
    }

    private static void countsOthers() {
        Check.sentence("NONE for others.");
        ListenWells x = busy();
        int[] bad = {-1, 18, Integer.MIN_VALUE, Integer.MAX_VALUE};
        for (int what : bad) {
            Check.due("no such count", x.count(what), -1);
        }
        Check.sentence("0 SHAFTS, 1 LISTENERS, 2 NOISES, 3 CELLS that are DUG, 4 HEARSAY, 5 WELLS, 6 LAWS, 7 how many can be undone,"
            + " 8 bytes of the TAPE");
        int[] due = {3, 1, 2, 4, 1, 2, 1, 1, 0};
        for (int what = 0; what < due.length; what++) {
            Check.due("count(" + what + ")", x.count(what), due[what]);
        }
        Check.sentence("14 the LAW in FORCE, 15 .. 17 TERMS 0 .. 2.");
        Check.due("law", x.count(14), 0);
        x.terms(0, 71);
        x.terms(1, 5);
        x.terms(2, 6);
        Check.due("day", x.count(15), 71);
        Check.due("thunder", x.count(16), 5);
        Check.due("mood", x.count(17), 6);
        x.feed(0, 0, 0, 0, 0);
        x.end(13);
        Check.due("bytes of the tape", x.count(8), 13);
    }
}
