/** Promises 15, 17, 20 to 27: loudness, noise, who hears what; to dig, haul, hush, lie; ORDERS; to undo. */
public final class DeedsTest {
    public static void main(String[] args) {
        loud();
        din();
        hears();
        dig();
        haul();
        buckets();
        hush();
        lie();
        orders();
        ordersUndone();
        undo();
        undoAroundOrders();
        undoIsCleared();
        Check.end("DeedsTest");
    }

    private static void loud() {
        ListenWells x = new ListenWells();
        Check.due("above it", x.loud(0, 0), 18);
        Check.due("farthest", x.loud(32, 7), 20 - 2 * 12);
        Check.due("no such cell", x.loud(-1, 0), -100000);
        Check.due("no such cell", x.loud(40, 0), -100000);
        Check.due("no such column", x.loud(0, -1), -100000);
        Check.due("no such column", x.loud(0, 8), -100000);
        Check.law(x, "says 10 * kind;loses 9");
        x.force(0);
        x.put(20, 0, 3);
        Check.due("by law", x.loud(20, 1), 30 - 9 * 6);
        Check.due("of rock", x.loud(21, 5), 0 - 9 * 3);
    }

    private static void din() {
        ListenWells x = new ListenWells();
        Check.due("none", x.din(0), 0);
        x.noise(0, 3);
        x.noise(7, 20);
        x.noise(3, 0);
        int[] due = {3 + 13, 2 + 14, 1 + 15, 16, 17, 18, 19, 20};
        for (int column = 0; column < 8; column++) {
            Check.due("din", x.din(column), due[column]);
        }
        Check.due("no such column", x.din(8), -1);
        Check.due("no such column", x.din(-1), -1);
        x.hush(1);
        Check.due("behind a hush", x.din(7), 0);
        Check.due("behind a hush", x.din(2), 1);
    }

    private static void hears() {
        ListenWells x = new ListenWells();
        Check.due("no listener", x.hears(0), -1);
        x.listener(0, 2);
        Check.due("no such listener", x.hears(-1), -1);
        Check.due("no such listener", x.hears(1), -1);
        Check.due("no water", x.hears(0), 0);
        x.put(0, 0, 3);
        x.put(39, 0, 3);
        // 18 and 2, -4 and 2
        Check.due("the near one", x.hears(0), 1);
        x.noise(0, 19);
        Check.due("above noise", x.hears(0), 1);
        x.noise(1, 2);
        Check.due("as loud as noise", x.hears(0), 0);
        x.listener(7, 20);
        x.put(39, 2, 9);
        // in column 7: noise 12; cell 39 is 10 loud there, cell 0 is 4
        Check.due("both", x.hears(1), 1L | 1L << 39);
        x.sink(0);
        Check.due("dug water, too", x.hears(1), 1L | 1L << 39);
    }

    private static void dig() {
        ListenWells x = new ListenWells();
        Check.due("no such way", x.dig(0, -1), -1);
        Check.due("no such way", x.dig(9, 3), -1);
        Check.due("no such shaft", x.dig(0, 0), -2);
        x.sink(0);
        x.sink(7);
        Check.due("no such shaft", x.dig(-1, 0), -2);
        Check.due("no such shaft", x.dig(2, 0), -2);
        Check.due("no cell left", x.dig(0, 0), -3);
        Check.due("no cell right", x.dig(1, 2), -3);
        Check.due("down", x.dig(0, 1), 8);
        Check.due("day", x.count(15), 3);
        Check.due("right", x.dig(0, 2), 9);
        Check.due("back left is dug", x.dig(0, 0), -3);
        x.put(9 + 8, 1, 9);
        Check.due("down", x.dig(0, 1), 17);
        Check.due("day", x.count(15), 15);
        x.put(18, 0, 2);
        Check.due("salt", x.dig(0, 2), 18);
        Check.due("spoilt", x.of(0, 2), 1);
        Check.due("no more", x.dig(0, 2), -3);
        x.put(15, 0, 1);
        Check.due("sand", x.dig(1, 1), -3);
        Check.law(x, "passes;digs 98");
        x.force(0);
        x.terms(0, 9902);
        Check.due("a day too late", x.dig(1, 1), -3);
        x.terms(0, 9901);
        Check.due("just in time", x.dig(1, 1), 15);
        Check.due("day", x.count(15), 9999);
        x.terms(0, 0);
        x.put(23, 0, 3);
        x.put(14, 0, 1);
        x.dig(1, 1);
        Check.due("found", x.of(1, 3), 1);
        Check.due("no more", x.dig(1, 1), -3);
        Check.due("refused by -3", x.count(11), 7);
        ListenWells deep = new ListenWells();
        deep.sink(3);
        for (int depth = 1; depth < 5; depth++) {
            Check.due("down", deep.dig(0, 1), 8 * depth + 3);
        }
        Check.due("no cell below", deep.dig(0, 1), -3);
        ListenWells edge = new ListenWells();
        edge.sink(0);
        edge.dig(0, 1);
        Check.due("no cell left at depth 1", edge.dig(0, 0), -3);
        ListenWells otherEdge = new ListenWells();
        otherEdge.sink(7);
        otherEdge.dig(0, 1);
        Check.due("no cell right at depth 1", otherEdge.dig(0, 2), -3);
    }

    private static void haul() {
        ListenWells x = new ListenWells();
        Check.due("no such shaft", x.haul(0), -2);
        x.put(0, 0, 3);
        x.put(0, 2, 7);
        x.sink(0);
        x.sink(1);
        Check.due("no such shaft", x.haul(-1), -2);
        Check.due("no such shaft", x.haul(2), -2);
        Check.due("not found", x.haul(1), -3);
        Check.due("gives", x.haul(0), 5);
        Check.due("gives the rest", x.haul(0), 2);
        Check.due("gives none", x.haul(0), 0);
        Check.due("day", x.count(15), 3);
        Check.due("buckets", x.of(0, 1), 7);
        x.put(0, 2, 50);
        x.terms(0, 9998);
        Check.due("the last day but one", x.haul(0), 5);
        Check.due("the last day", x.haul(0), -3);
        Check.due("water stays", x.at(0, 2), 45);
    }

    private static void buckets() {
        ListenWells x = new ListenWells();
        Check.law(x, "gives 99");
        x.force(0);
        x.put(0, 0, 3);
        x.sink(0);
        for (int n = 0; n < 101; n++) {
            x.put(0, 2, 99);
            x.haul(0);
        }
        Check.due("101 times 99", x.of(0, 1), 9999);
        x.put(0, 2, 50);
        Check.due("gives", x.haul(0), 50);
        Check.due("9,999 at most", x.of(0, 1), 9999);
        Check.due("water is less", x.at(0, 2), 0);
        Check.due("undo", x.undo(), 1);
        Check.due("water", x.at(0, 2), 50);
        Check.due("buckets", x.of(0, 1), 9999);
        Check.due("day", x.count(15), 101);
        Check.due("none came", x.seasons(0, 1), 0);
    }

    private static void hush() {
        ListenWells x = new ListenWells();
        Check.due("no such noise", x.hush(0), -2);
        x.noise(2, 9);
        x.noise(4, 9);
        Check.due("no such noise", x.hush(-1), -2);
        Check.due("no such noise", x.hush(2), -2);
        Check.due("noise that is left there", x.hush(0), 7);
        Check.due("hushed", x.hush(0), -3);
        Check.due("noise that is left there", x.hush(1), 0);
    }

    private static void lie() {
        ListenWells x = new ListenWells();
        Check.due("no such column", x.lie(0, 8), -1);
        Check.due("no such column", x.lie(0, -1), -1);
        Check.due("no such listener", x.lie(0, 0), -2);
        x.listener(6, 0);
        Check.due("no such listener", x.lie(1, 0), -2);
        Check.due("no such listener", x.lie(-1, 0), -2);
        Check.due("was in", x.lie(0, 1), 6);
        Check.due("was in", x.lie(0, 1), 1);
        Check.due("both can be undone", x.count(7), 2);
    }

    private static void orders() {
        ListenWells x = new ListenWells();
        x.put(9, 0, 3);
        x.put(9, 2, 30);
        x.sink(1);
        x.sink(5);
        x.listener(3, 0);
        x.noise(0, 5);
        x.noise(1, 5);
        // latest is -1 at first; done counts what was run
        Check.due("done", Check.orders(x, "lie 0 in latest + 2 if latest = 0 - 1;hush done;hush 1 if 1 = 2"), 2);
        Check.due("column", x.who(0, 0), 1);
        Check.due("hush done was hush 1", x.who(1, 4), 1);
        Check.due("dig, haul", Check.orders(x, "dig 0 by 1;lie 0 in latest - 5;haul 0 times 3;lie 0 in 2 if latest = 5"), 6);
        Check.due("at cell", x.of(0, 0), 9);
        Check.due("buckets", x.of(0, 1), 15);
        Check.due("column", x.who(0, 0), 2);
        Check.due("day", x.count(15), 6);
        Check.due("at, buckets, column", Check.orders(x, "lie 0 in 3 if at 0 = 9 and at 2 = 0 - 1 and buckets 0 = 15"
                + " and buckets 5 = 0 - 1 and column 0 = 2 and column 4 = 0 - 1 and day = 6"), 1);
        Check.due("column", x.who(0, 0), 3);
        Check.due("the if is asked each time", Check.orders(x, "haul 0 times 20 if buckets 0 < 22"), 2);
        Check.due("buckets", x.of(0, 1), 25);
        x.put(9, 2, 0);
        Check.due("a haul of nothing is run", Check.orders(x, "haul 0;lie 0 in 6 if latest = 0"), 2);
        Check.due("column", x.who(0, 0), 6);
        x.sink(0);
        Check.due("without such ones", Check.orders(x, "lie 0 in 7 if at 3 = 0 - 1 and buckets 3 = 0 - 1 and column 1 = 0 - 1"), 1);
        ListenWells first = new ListenWells();
        first.sink(1);
        first.listener(5, 0);
        Check.due("a dig of cell 0 is run", Check.orders(first, "dig 0 by 0;lie 0 in 6 if latest = 0"), 2);
        Check.due("no cell left of it", Check.orders(first, "dig 0 by 0"), -3);
        Check.due("a BROKEN if is not so", Check.orders(x, "haul 9 if 1 / 0 = 1;haul 9 times 5 if 1 = 2"), 0);
        Check.due("stopped", x.stopped(), -1);
        Check.due("status", x.status(), 0);
    }

    private static void ordersUndone() {
        ListenWells x = new ListenWells();
        x.put(9, 0, 3);
        x.put(9, 2, 30);
        x.sink(1);
        x.listener(3, 0);
        x.noise(0, 5);
        x.lie(0, 4);
        String[] ends = {"haul 1", "haul 0 - 1", "hush 0", "lie 0 in 8", "lie 1 in 0", "dig 0 by 1", "dig 0 by 3",
            "dig 1 / 0 by 1", "dig 0 by 1 / 0", "haul 0 / 0", "hush 7 % 0", "lie 0 in 1000 * 1000 * 1000 * 1000"};
        for (int k = 0; k < ends.length; k++) {
            Check.due(ends[k], Check.orders(x, "dig 0 by 1;haul 0;hush 0;lie 0 in 0;" + ends[k]), -3);
            Check.due("stopped", x.stopped(), 4);
            Check.due("cell", x.of(0, 0), 1);
            Check.due("dug", x.count(3), 1);
            Check.due("buckets", x.of(0, 1), 0);
            Check.due("water", x.at(9, 2), 30);
            Check.due("hushed", x.who(0, 4), 0);
            Check.due("column", x.who(0, 0), 4);
            Check.due("day", x.count(15), 0);
            Check.due("can be undone", x.count(7), 1);
            Check.due("tape", x.count(8), 0);
            Check.due("refused", x.count(11), k + 1);
        }
        Check.due("undo", x.undo(), 3);
        Check.due("column", x.who(0, 0), 3);
        Check.due("nothing", x.undo(), -3);
        x.put(9, 2, 11);
        Check.due("three times can't be: not even the first", Check.orders(x, "dig 0 by 1;hush 0 times 2"), -3);
        Check.due("stopped", x.stopped(), 1);
        Check.due("hushed", x.who(0, 4), 0);
    }

    private static void undo() {
        ListenWells x = new ListenWells();
        Check.due("nothing", x.undo(), -3);
        x.listener(0, 0);
        for (int n = 1; n <= 20; n++) {
            x.lie(0, n % 8);
        }
        Check.due("16 are kept", x.count(7), 16);
        for (int n = 19; n >= 4; n--) {
            Check.due("undo", x.undo(), 3);
            Check.due("column", x.who(0, 0), n % 8);
        }
        Check.due("nothing", x.undo(), -3);
        Check.due("column stays", x.who(0, 0), 4);
        x.listener(0, 0);
        Check.due("40 by orders", Check.orders(x, "lie 0 in done % 8 times 20;lie 1 in done % 8 times 20"), 40);
        Check.due("16 are kept", x.count(7), 16);
        for (int n = 0; n < 16; n++) {
            Check.due("undo", x.undo(), 3);
        }
        Check.due("listener 0", x.who(0, 0), 19 % 8);
        Check.due("listener 1", x.who(1, 0), 23 % 8);
        Check.due("nothing", x.undo(), -3);
        x.sink(0);
        x.noise(1, 1);
        x.put(8, 0, 3);
        x.put(8, 2, 8);
        x.dig(0, 1);
        x.hush(0);
        x.haul(0);
        Check.due("haul", x.undo(), 1);
        Check.due("water", x.at(8, 2), 8);
        Check.due("day", x.count(15), 3);
        Check.due("hush", x.undo(), 2);
        Check.due("hushed", x.who(0, 4), 0);
        Check.due("dig", x.undo(), 0);
        Check.due("day", x.count(15), 0);
        Check.due("dug", x.at(8, 3), 0);
        Check.due("cell", x.of(0, 0), 0);
        Check.due("it can be dug again", x.dig(0, 1), 8);
    }

    /** What was done ahead of ORDERS can still be undone behind them. */
    private static void undoAroundOrders() {
        ListenWells x = new ListenWells();
        x.put(8, 0, 3);
        x.put(8, 2, 40);
        x.terms(0, 50);
        x.sink(0);
        x.noise(0, 9);
        x.listener(2, 2);
        x.dig(0, 1);
        x.haul(0);
        x.haul(0);
        Check.due("orders", Check.orders(x, "haul 0;hush 0;lie 0 in 5"), 3);
        Check.due("orders that can't be", Check.orders(x, "lie 0 in 6;haul 1"), -3);
        int[] deeds = {3, 2, 1, 1, 1, 0};
        int[] buckets = {15, 15, 10, 5, 0, 0};
        int[] days = {56, 56, 55, 54, 53, 50};
        for (int k = 0; k < deeds.length; k++) {
            Check.due("undo", x.undo(), deeds[k]);
            Check.due("buckets", x.of(0, 1), buckets[k]);
            Check.due("water", x.at(8, 2), 40 - buckets[k]);
            Check.due("day", x.count(15), days[k]);
        }
        Check.due("column", x.who(0, 0), 2);
        Check.due("hushed", x.who(0, 4), 0);
        Check.due("cell", x.of(0, 0), 0);
        Check.due("nothing is left", x.undo(), -3);
    }

    private static void undoIsCleared() {
        for (int call = 0; call < 20; call++) {
            ListenWells x = new ListenWells();
            x.listener(0, 0);
            x.image(0);
            x.sink(7);
            x.lie(0, 1);
            boolean clears = call < 7;
            switch (call) {
                case 0: x.put(0, 1, 3); break;
                case 1: x.sink(0); break;
                case 2: x.listener(0, 0); break;
                case 3: x.noise(0, 0); break;
                case 4: x.terms(1, 2); break;
                case 5: Check.tape(x, "?"); x.row(); break;
                case 6: x.back(0); break;
                case 7: x.put(0, 1, 0); break;
                case 8: x.sink(7); break;
                case 9: x.listener(8, 0); break;
                case 10: x.noise(0, 21); break;
                case 11: x.terms(1, 11); break;
                case 12: x.row(); break;
                case 13: x.back(1); break;
                case 14: Check.law(x, "says 1"); x.force(0); break;
                case 15: x.heard(0, 0); x.well(0, 0); x.forget(); break;
                case 16: x.seasons(1, 60); break;
                case 17: x.image(1); break;
                case 18: Check.orders(x, "haul 0"); break;
                default: Check.tape(x, "abc"); break;
            }
            Check.due("can be undone behind " + call, x.count(7), clears ? 0 : 1);
            Check.due("undo behind " + call, x.undo(), clears ? -3 : 3);
        }
    }
}
