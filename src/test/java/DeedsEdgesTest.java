import java.util.ArrayDeque;
import java.util.Deque;
import java.util.function.Consumer;

/** Terms III, promises 4, 20 to 27, sentence by sentence: to sink, dig, haul, hush, lie, undo; who hears what. */
public final class DeedsEdgesTest {
    public static void main(String[] args) {
        sink();
        digEdges();
        digWays();
        digDug();
        digSpoiltOrFound();
        digDays();
        digBeyondTheLastDay();
        haul();
        haulOnTheLastDay();
        haulOfNothing();
        hush();
        lie();
        loud();
        noise();
        above();
        waterAlone();
        hearsWhere();
        undoKinds();
        undoIsExact();
        undoKeepsSixteen();
        undoRing();
        undoOfOrders();
        undoIsEnded();
        undoIsNotEnded();
        Check.end("DeedsEdgesTest");
    }

    private static void sink() {
        Check.sentence("To SINK a SHAFT: in a CELL of depth 0 that is not DUG, no sand: it is DUG.");
        ListenWells x = new ListenWells();
        x.put(1, 0, 1);
        x.put(2, 0, 2);
        x.put(3, 0, 3);
        Check.law(x, "passes");
        x.force(0);
        Check.due("rock", x.sink(0), 0);
        Check.due("dug", x.at(0, 3), 1);
        Check.due("dug already", x.sink(0), -3);
        Check.due("sand, though it is passed", x.sink(1), -3);
        Check.due("not dug", x.at(1, 3), 0);
        Check.due("salt", x.sink(2), 1);
        Check.due("water", x.sink(3), 2);
        x.sink(7);
        x.dig(3, 0);
        Check.due("dug by a shaft", x.sink(6), -3);
        x.undo();
        Check.due("no more", x.sink(6), 4);
        Check.due("no day goes by", x.count(15), 0);
        Check.due("the last column but one", x.of(4, 0), 6);
    }

    private static void digEdges() {
        Check.sentence("by a WAY 0 left, 1 down, 2 right: the CELL there is there");
        for (int column = 0; column < 8; column++) {
            ListenWells x = new ListenWells();
            x.sink(column);
            for (int z = 0; z < 5; z++) {
                int cell = 8 * z + column;
                Check.due("is in", x.of(0, 0), cell);
                Check.due("left of " + cell, x.dig(0, 0), column == 0 ? -3 : cell - 1);
                if (column > 0) {
                    x.undo();
                }
                Check.due("right of " + cell, x.dig(0, 2), column == 7 ? -3 : cell + 1);
                if (column < 7) {
                    x.undo();
                }
                Check.due("down of " + cell, x.dig(0, 1), z == 4 ? -3 : cell + 8);
            }
        }
    }

    private static void digWays() {
        Check.sentence("To DIG: the CELL. -1; -2; -3.");
        ListenWells x = new ListenWells();
        x.sink(3);
        int[] bad = {-1, 3, Integer.MIN_VALUE, Integer.MAX_VALUE};
        for (int way : bad) {
            Check.due("no such way", x.dig(0, way), -1);
        }
        Check.due("left", x.dig(0, 0), 2);
        Check.due("down", x.dig(0, 1), 10);
        Check.due("right", x.dig(0, 2), 11);
        Check.due("never up", x.dig(0, 3), -1);
    }

    private static void digDug() {
        Check.sentence("the CELL there is there, not DUG, it PASSES it");
        ListenWells x = new ListenWells();
        x.sink(3);
        x.sink(4);
        Check.due("another's", x.dig(0, 2), -3);
        Check.due("another's", x.dig(1, 0), -3);
        x.dig(0, 1);
        x.dig(0, 2);
        Check.due("its own", x.dig(0, 0), -3);
        Check.due("another's, below", x.dig(1, 1), -3);
        x.put(20, 0, 1);
        Check.due("sand", x.dig(0, 1), -3);
        Check.due("nothing was dug", x.count(3), 4);
        Check.due("no day went by", x.count(15), 6);
    }

    private static void digSpoiltOrFound() {
        Check.sentence("To DIG (a SHAFT that is not SPOILT, has not FOUND)");
        for (int kind = 0; kind < 4; kind++) {
            ListenWells x = new ListenWells();
            Check.law(x, "passes");
            x.force(0);
            x.put(12, 0, kind);
            x.sink(4);
            x.dig(0, 1);
            for (int way = 0; way < 3; way++) {
                boolean can = kind < 2;
                int to = way == 1 ? 20 : 11 + way;
                Check.due("on from kind " + kind, x.dig(0, way), can ? to : -3);
                if (can) {
                    x.undo();
                }
            }
        }
    }

    private static void digDays() {
        Check.sentence("DAY is later by what it DIGS (not beyond 9,999), it is DUG, the SHAFT's.");
        ListenWells x = new ListenWells();
        x.put(8, 1, 7);
        x.put(16, 1, 1);
        x.terms(0, 100);
        x.sink(0);
        x.sink(5);
        Check.due("dig", x.dig(0, 1), 8);
        Check.due("day", x.count(15), 107);
        Check.due("dug", x.at(8, 3), 1);
        Check.due("the shaft's", x.of(0, 0), 8);
        Check.due("no other's", x.of(1, 0), 5);
        x.dig(0, 1);
        Check.due("day", x.count(15), 108);
    }

    private static void digBeyondTheLastDay() {
        Check.sentence("(not beyond 9,999)");
        for (int hard = 1; hard < 10; hard++) {
            ListenWells x = new ListenWells();
            x.put(8, 1, hard);
            x.sink(0);
            x.terms(0, 10000 - hard);
            Check.due("a day too late", x.dig(0, 1), -3);
            Check.due("the day stays", x.count(15), 10000 - hard);
            Check.due("not dug", x.at(8, 3), 0);
            Check.due("nothing to undo", x.count(7), 0);
            x.terms(0, 9999 - hard);
            Check.due("just in time", x.dig(0, 1), 8);
            Check.due("the last day", x.count(15), 9999);
        }
    }

    private static void haul() {
        Check.sentence("WATER is less, BUCKETS are more (9,999 at most) by what it GIVES; it is the next DAY.");
        ListenWells x = new ListenWells();
        x.put(0, 0, 3);
        x.put(0, 2, 11);
        x.put(1, 2, 50);
        x.sink(0);
        x.sink(1);
        int[] told = {5, 5, 1, 0};
        int came = 0;
        for (int n = 0; n < 4; n++) {
            Check.due("haul", x.haul(0), told[n]);
            came += told[n];
            Check.due("water", x.at(0, 2), 11 - came);
            Check.due("buckets", x.of(0, 1), came);
            Check.due("day", x.count(15), n + 1);
        }
        Check.due("one that has not found", x.haul(1), -3);
        Check.due("other buckets", x.of(1, 1), 0);
        x.put(2, 0, 2);
        x.put(2, 2, 9);
        x.sink(2);
        Check.due("one that is spoilt", x.haul(2), -3);
    }

    private static void haulOnTheLastDay() {
        Check.sentence("To HAUL (it has FOUND, DAY is below 9,999)");
        ListenWells x = new ListenWells();
        x.put(0, 0, 3);
        x.put(0, 2, 20);
        x.sink(0);
        x.terms(0, 9998);
        Check.due("the last day but one", x.haul(0), 5);
        Check.due("day", x.count(15), 9999);
        Check.due("the last day", x.haul(0), -3);
        Check.due("day", x.count(15), 9999);
        Check.due("water", x.at(0, 2), 15);
        Check.due("buckets", x.of(0, 1), 5);
        x.undo();
        Check.due("undone", x.count(15), 9998);
    }

    private static void haulOfNothing() {
        Check.sentence("To HAUL: what it GIVES. -2; -3.");
        ListenWells x = new ListenWells();
        x.put(0, 0, 3);
        x.sink(0);
        Check.due("nothing is there", x.haul(0), 0);
        Check.due("not refused", x.status(), 0);
        Check.due("it is the next day", x.count(15), 1);
        Check.due("it can be undone", x.undo(), 1);
        Check.due("day", x.count(15), 0);
        x.put(0, 2, 7);
        Check.law(x, "gives 0");
        x.force(0);
        Check.due("gives nothing", x.haul(0), 0);
        Check.due("water", x.at(0, 2), 7);
    }

    private static void hush() {
        Check.sentence("To HUSH a NOISE that is not HUSHED.");
        ListenWells twice = new ListenWells();
        twice.noise(2, 9);
        Check.due("once", twice.hush(0), 0);
        Check.due("hushed", twice.who(0, 4), 1);
        Check.due("its loudness is still told", twice.who(0, 3), 9);
        Check.due("not twice", twice.hush(0), -3);
        Check.due("it stays so", twice.who(0, 4), 1);
        Check.sentence("To HUSH: NOISE in that COLUMN then. -2; -3.");
        ListenWells x = new ListenWells();
        x.noise(0, 20);
        x.noise(1, 10);
        x.noise(7, 4);
        x.noise(7, 9);
        Check.due("in column 1 the others are 19 + 0 + 3", x.hush(1), 22);
        Check.due("hushed", x.hush(1), -3);
        Check.due("in column 0 the last is 2", x.hush(0), 2);
        Check.due("in column 7 the last is 9", x.hush(2), 9);
        Check.due("none is left", x.hush(3), 0);
        for (int k = 0; k < 4; k++) {
            Check.due("hushed", x.hush(k), -3);
        }
        Check.due("no such", x.hush(4), -2);
        x.undo();
        Check.due("undone, it can be hushed", x.hush(3), 0);
        ListenWells silent = new ListenWells();
        silent.noise(3, 0);
        Check.due("one of no loudness", silent.hush(0), 0);
        Check.due("once", silent.hush(0), -3);
    }

    private static void lie() {
        Check.sentence("To LIE in a COLUMN.");
        ListenWells all = new ListenWells();
        all.listener(4, 4);
        for (int column = 0; column < 8; column++) {
            Check.due("was in", all.lie(0, column), column == 0 ? 4 : column - 1);
            Check.due("is in", all.who(0, 0), column);
        }
        Check.due("not beyond", all.lie(0, 8), -1);
        Check.due("is in", all.who(0, 0), 7);
        Check.sentence("To LIE: the COLUMN in which the LISTENER was. -1; -2.");
        ListenWells x = new ListenWells();
        x.listener(0, 3);
        x.listener(0, 4);
        Check.due("was in", x.lie(1, 7), 0);
        Check.due("was in", x.lie(1, 7), 7);
        Check.due("was in", x.lie(1, 0), 7);
        Check.due("the ear stays", x.who(1, 1), 4);
        Check.due("the other stays", x.who(0, 0), 0);
        Check.due("where it is counts, too", x.count(7), 3);
        Check.due("no day goes by", x.count(15), 0);
    }

    private static void loud() {
        Check.sentence("How LOUD a CELL is in a COLUMN: what it SAYS less STEPS (COLUMNS apart, depth and 1) times what it LOSES (also below 0).");
        ListenWells x = new ListenWells();
        for (int cell = 0; cell < 40; cell += 3) {
            for (int column = 0; column < 8; column++) {
                int steps = Math.abs(column - cell % 8) + cell / 8 + 1;
                Check.due("loud", x.loud(cell, column), 20 - 2 * steps);
            }
        }
        Check.law(x, "says 0;loses 9");
        x.force(0);
        Check.due("the least", x.loud(32, 7), -108);
        Check.law(x, "says 99;loses 0");
        x.force(1);
        Check.due("the most", x.loud(32, 7), 99);
        Check.law(x, "says 24;loses 2");
        x.force(2);
        Check.due("just 0", x.loud(39, 0), 0);
        Check.law(x, "says 11;loses 1");
        x.force(3);
        Check.due("-1 is an answer", x.loud(39, 0), -1);
        Check.sentence("How LOUD a CELL is in a COLUMN. NOTHING.");
        Check.due("no cell", x.loud(40, 0), -100000);
        Check.due("no column", x.loud(0, 8), -100000);
        Check.due("neither", x.loud(-1, -1), -100000);
    }

    private static void noise() {
        Check.sentence("NOISE in a COLUMN. NONE.");
        int[] bad = {-1, 8, Integer.MIN_VALUE, Integer.MAX_VALUE};
        for (int column : bad) {
            Check.due("no such column", new ListenWells().din(column), -1);
        }
        Check.sentence("NOISE in a COLUMN: of all NOISES that are not HUSHED LOUD less COLUMNS apart, as far as that is above 0, together.");
        ListenWells x = new ListenWells();
        for (int column = 0; column < 8; column++) {
            Check.due("no noise", x.din(column), 0);
        }
        x.noise(0, 3);
        int[] one = {3, 2, 1, 0, 0, 0, 0, 0};
        for (int column = 0; column < 8; column++) {
            Check.due("one noise", x.din(column), one[column]);
        }
        x.noise(7, 20);
        x.noise(7, 20);
        x.noise(4, 0);
        int[] all = {29, 30, 31, 32, 34, 36, 38, 40};
        for (int column = 0; column < 8; column++) {
            Check.due("none takes from another", x.din(column), all[column]);
        }
        x.hush(1);
        Check.due("not the hushed", x.din(7), 20);
        x.hush(2);
        Check.due("not the hushed", x.din(7), 0);
        Check.due("the first is left", x.din(0), 3);
        ListenWells full = new ListenWells();
        for (int k = 0; k < 6; k++) {
            full.noise(5, 20);
        }
        Check.due("the most", full.din(5), 120);
    }

    private static void above() {
        Check.sentence("if how LOUD it is in that COLUMN and EAR together are above NOISE there.");
        for (int ear = 0; ear <= 20; ear++) {
            ListenWells x = new ListenWells();
            x.put(24, 0, 3);
            x.listener(0, ear);
            // 12 loud there
            for (int k = 0; k < 6; k++) {
                int noise = x.din(0);
                Check.due("12 and " + ear + " against " + noise, x.hears(0), 12 + ear > noise ? 1L << 24 : 0);
                x.noise(0, k == 0 ? 12 : k == 1 ? ear : 1);
            }
        }
        ListenWells still = new ListenWells();
        Check.law(still, "says 12;loses 1");
        still.force(0);
        still.put(32, 0, 3);
        still.put(33, 0, 3);
        still.listener(7, 0);
        Check.due("0 is not above 0, 1 is", still.hears(0), 1L << 33);
        Check.law(still, "says 10;loses 1");
        still.force(1);
        Check.due("below 0", still.hears(0), 0);
        still.listener(7, 2);
        Check.due("-2 and 2, -1 and 2", still.hears(1), 1L << 33);
    }

    private static void waterAlone() {
        Check.sentence("A LISTENER HEARS a CELL of water");
        ListenWells x = new ListenWells();
        x.listener(3, 20);
        Check.due("rock", x.hears(0), 0);
        for (int kind = 0; kind < 4; kind++) {
            x.put(16 + kind, 0, kind);
        }
        Check.due("water alone", x.hears(0), 1L << 19);
        Check.due("dry water, too", x.at(19, 2), 0);
        for (int cell = 0; cell < 40; cell++) {
            x.put(cell, 0, 3);
        }
        Check.due("all cells", x.hears(0), (1L << 40) - 1);
        x.sink(3);
        Check.due("dug ones, too", x.hears(0), (1L << 40) - 1);
    }

    private static void hearsWhere() {
        Check.sentence("CELLS that a LISTENER HEARS, as bits. NONE.");
        ListenWells x = new ListenWells();
        x.put(0, 0, 3);
        x.put(39, 0, 3);
        x.listener(0, 0);
        x.listener(7, 0);
        x.noise(0, 5);
        // noise 5 and 0; cell 0: 18 and 4, cell 39: -4 and 10
        Check.due("in column 0", x.hears(0), 1);
        Check.due("in column 7", x.hears(1), 1L << 39 | 1);
        x.lie(0, 7);
        Check.due("where it lies now", x.hears(0), 1L << 39 | 1);
        Check.due("no such", x.hears(2), -1);
        Check.due("no such", x.hears(-1), -1);
    }

    private static ListenWells ready() {
        ListenWells x = new ListenWells();
        x.put(9, 0, 3);
        x.put(9, 2, 33);
        x.put(4, 2, 44);
        x.sink(1);
        x.sink(4);
        x.listener(2, 7);
        x.listener(3, 8);
        x.noise(5, 9);
        x.noise(6, 10);
        x.terms(0, 50);
        x.lie(1, 6);
        return x;
    }

    private static void undoKinds() {
        Check.sentence("The latest dig(), haul(), hush(), lie() (by ORDERS, too; 16 are kept) is undone: 0 .. 3.");
        ListenWells x = ready();
        x.dig(0, 1);
        x.haul(0);
        x.hush(1);
        x.lie(0, 5);
        Check.due("can be undone", x.count(7), 5);
        Check.due("lie", x.undo(), 3);
        Check.due("column", x.who(0, 0), 2);
        Check.due("hush", x.undo(), 2);
        Check.due("hushed", x.who(1, 4), 0);
        Check.due("haul", x.undo(), 1);
        Check.due("buckets", x.of(0, 1), 0);
        Check.due("dig", x.undo(), 0);
        Check.due("cell", x.of(0, 0), 1);
        Check.due("the lie ahead of them", x.undo(), 3);
        Check.due("nothing", x.undo(), -3);
        Check.due("nothing", x.undo(), -3);
    }

    private static void undoneExactly(String deed, Consumer<ListenWells> ahead, Consumer<ListenWells> one, int due) {
        ListenWells before = ready();
        ahead.accept(before);
        ListenWells x = ready();
        ahead.accept(x);
        one.accept(x);
        Check.due("undo of " + deed, x.undo(), due);
        View.of(x).mustBe("behind the undoing of " + deed, View.of(before));
    }

    private static void undoIsExact() {
        Check.sentence("(by ORDERS, too; 16 are kept) is undone");
        Consumer<ListenWells> nothing = x -> { };
        Consumer<ListenWells> found = x -> x.dig(0, 1);
        Consumer<ListenWells> hauled = x -> {
            x.dig(0, 1);
            x.haul(0);
        };
        undoneExactly("a dig", nothing, x -> x.dig(1, 2), 0);
        undoneExactly("a dig that found", nothing, x -> x.dig(0, 1), 0);
        undoneExactly("a haul", found, x -> x.haul(0), 1);
        undoneExactly("a second haul", hauled, x -> x.haul(0), 1);
        undoneExactly("a hush", nothing, x -> x.hush(1), 2);
        undoneExactly("a hush of the first", nothing, x -> x.hush(0), 2);
        undoneExactly("a second hush", x -> x.hush(0), x -> x.hush(1), 2);
        undoneExactly("a lie", nothing, x -> x.lie(1, 7), 3);
        undoneExactly("a lie where it is", nothing, x -> x.lie(1, 6), 3);
        Consumer<ListenWells> hushed = x -> {
            x.hush(0);
            x.hush(1);
            x.dig(0, 1);
        };
        undoneExactly("a haul where it is hushed", hushed, x -> x.haul(0), 1);
        undoneExactly("a dig where it is hushed", hushed, x -> x.dig(1, 0), 0);
        undoneExactly("a lie where it is hushed", hushed, x -> x.lie(0, 0), 3);
        undoneExactly("a dig of another", hauled, x -> x.dig(1, 0), 0);
        undoneExactly("an order", nothing, x -> Check.orders(x, "dig 1 by 1"), 0);
    }

    private static void undoKeepsSixteen() {
        Check.sentence("16 are kept");
        for (int deeds = 15; deeds <= 18; deeds++) {
            ListenWells x = new ListenWells();
            x.listener(7, 0);
            for (int n = 0; n < deeds; n++) {
                Check.due("can be undone", x.count(7), Math.min(16, n));
                x.lie(0, n % 7);
            }
            int kept = Math.min(16, deeds);
            Check.due("can be undone", x.count(7), kept);
            for (int n = 0; n < kept; n++) {
                Check.due("undo", x.undo(), 3);
                Check.due("can be undone", x.count(7), kept - n - 1);
            }
            Check.due("no more", x.undo(), -3);
            Check.due("can be undone", x.count(7), 0);
            Check.due("column", x.who(0, 0), deeds <= 16 ? 7 : (deeds - 17) % 7);
        }
    }

    private static void undoRing() {
        Check.sentence("16 are kept");
        ListenWells x = new ListenWells();
        x.listener(0, 0);
        Deque<Integer> was = new ArrayDeque<>();
        int column = 0;
        for (int n = 0; n < 130; n++) {
            boolean back = n % 7 > 4 && !was.isEmpty();
            if (back) {
                Check.due("undo", x.undo(), 3);
                column = was.removeLast();
            } else {
                x.lie(0, n * 5 % 8);
                was.addLast(column);
                column = n * 5 % 8;
                if (was.size() > 16) {
                    was.removeFirst();
                }
            }
            Check.due("column", x.who(0, 0), column);
            Check.due("can be undone", x.count(7), was.size());
        }
        while (!was.isEmpty()) {
            x.undo();
            Check.due("column", x.who(0, 0), was.removeLast());
        }
        Check.due("no more", x.undo(), -3);
    }

    private static void undoOfOrders() {
        Check.sentence("(by ORDERS, too; 16 are kept)");
        ListenWells x = ready();
        Check.due("orders", Check.orders(x, "dig 0 by 1;haul 0 times 2;hush 0;lie 0 in 1"), 5);
        Check.due("each by itself", x.count(7), 6);
        int[] kinds = {3, 2, 1, 1, 0, 3};
        for (int kind : kinds) {
            Check.due("undo", x.undo(), kind);
        }
        Check.due("no more", x.undo(), -3);
        // what was done ahead of ORDERS can be undone behind them
        ListenWells around = ready();
        around.dig(0, 1);
        around.haul(0);
        around.haul(0);
        Check.orders(around, "haul 0;hush 0;lie 0 in 1");
        int[] undone = {3, 2, 1, 1, 1, 0, 3};
        int[] buckets = {15, 15, 10, 5, 0, 0, 0};
        int[] days = {56, 56, 55, 54, 53, 50, 50};
        for (int k = 0; k < undone.length; k++) {
            Check.due("undo", around.undo(), undone[k]);
            Check.due("buckets", around.of(0, 1), buckets[k]);
            Check.due("water", around.at(9, 2), 33 - buckets[k]);
            Check.due("day", around.count(15), days[k]);
        }
        ListenWells many = new ListenWells();
        many.listener(7, 0);
        Check.orders(many, "lie 0 in done%7 times 20");
        Check.due("16 of 20", many.count(7), 16);
        for (int n = 19; n > 3; n--) {
            many.undo();
            Check.due("column", many.who(0, 0), (n - 1) % 7);
        }
        Check.due("no more", many.undo(), -3);
        many.lie(0, 1);
        Check.due("one that is not run", Check.orders(many, "lie 0 in 2 if 1=2"), 0);
        Check.due("adds nothing", many.count(7), 1);
        Check.orders(many, "lie 0 in 2 times 20;lie 0 in 8");
        Check.due("nor does one that can't be", many.count(7), 1);
        Check.due("undo", many.undo(), 3);
    }

    private static void ends(String call, Consumer<ListenWells> one, boolean due) {
        ListenWells x = ready();
        x.image(0);
        x.dig(1, 1);
        x.hush(0);
        one.accept(x);
        Check.due("can be undone behind " + call, x.count(7), due ? 0 : 3);
        Check.due("undo behind " + call, x.undo(), due ? -3 : 2);
    }

    private static void undoIsEnded() {
        Check.sentence("-3 there is none (nothing that was ahead of a put(), sink(), listener(), noise(), terms(), row()"
            + " that was not REFUSED can be undone)");
        ends("put", x -> x.put(30, 1, 4), true);
        ends("put of what it was", x -> x.put(30, 1, 3), true);
        ends("sink", x -> x.sink(7), true);
        ends("listener", x -> x.listener(0, 0), true);
        ends("noise", x -> x.noise(0, 0), true);
        ends("terms", x -> x.terms(2, 5), true);
        ends("terms as it was", x -> x.terms(1, 2), true);
        ends("row", x -> {
            Check.tape(x, "\1\1\1");
            x.row();
        }, true);
        ends("row of mud", x -> {
            Check.tape(x, "\1");
            x.row();
        }, true);
        Check.sentence("what can be undone (nothing, behind back())");
        ends("back", x -> x.back(0), true);
        ListenWells later = ready();
        later.put(30, 1, 4);
        later.lie(0, 0);
        Check.due("what comes behind can be", later.undo(), 3);
        Check.due("what was ahead can't", later.undo(), -3);
    }

    private static void undoIsNotEnded() {
        Check.sentence("that was not REFUSED can be undone");
        ends("put that is REFUSED by -1", x -> x.put(30, 1, 0), false);
        ends("put that is REFUSED by -3", x -> x.put(1, 0, 0), false);
        ends("sink that is REFUSED by -1", x -> x.sink(8), false);
        ends("sink that is REFUSED by -3", x -> x.sink(1), false);
        ends("listener that is REFUSED", x -> x.listener(0, 21), false);
        ends("noise that is REFUSED", x -> x.noise(8, 0), false);
        ends("terms that is REFUSED", x -> x.terms(3, 0), false);
        ends("row that is REFUSED", x -> x.row(), false);
        ends("back that is REFUSED", x -> x.back(1), false);
        ends("law and force", x -> {
            Check.law(x, "says 1");
            x.force(0);
        }, false);
        ends("heard, well, forget", x -> {
            x.heard(0, 0);
            x.well(0, 0);
            x.forget();
        }, false);
        ends("seasons", x -> x.seasons(1, 60), false);
        ends("image", x -> x.image(1), false);
        ends("orders that can't be", x -> Check.orders(x, "haul 9"), false);
        ends("orders that can't be read", x -> Check.orders(x, "haul"), false);
        ends("orders of which none is run", x -> Check.orders(x, "haul 9 if 1=2"), false);
        ends("a dig that is REFUSED", x -> x.dig(1, 3), false);
        ends("a hush that is REFUSED", x -> x.hush(0), false);
        ends("ways on paper", x -> {
            x.down(0, 30, 0);
            x.gangs(1L << 30, 0);
            x.time(0, 30, 9);
        }, false);
    }
}
