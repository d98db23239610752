/** Promises 1 to 9: a new object, CELLS, SHAFTS, LISTENERS, NOISES, TERMS. */
public final class PlacesTest {
    private static final int LEAST = Integer.MIN_VALUE;
    private static final int MOST = Integer.MAX_VALUE;

    public static void main(String[] args) {
        newObject();
        put();
        at();
        sink();
        of();
        listenersAndNoises();
        who();
        terms();
        Check.end("PlacesTest");
    }

    private static void newObject() {
        ListenWells x = new ListenWells();
        for (int cell = 0; cell < 40; cell++) {
            Check.due("kind at first", x.at(cell, 0), 0);
            Check.due("hard at first", x.at(cell, 1), 3);
            Check.due("water at first", x.at(cell, 2), 0);
            Check.due("dug at first", x.at(cell, 3), 0);
            Check.due("says at first", x.at(cell, 4), 20);
            Check.due("loses at first", x.at(cell, 5), 2);
        }
        for (int what = 0; what <= 13; what++) {
            Check.due("count " + what + " at first", x.count(what), 0);
        }
        Check.due("force at first", x.count(14), -1);
        Check.due("day at first", x.count(15), 0);
        Check.due("thunder at first", x.count(16), 2);
        Check.due("mood at first", x.count(17), 0);
        Check.due("status at first", x.status(), 0);
        Check.due("fault at first", x.fault(), -1);
        Check.due("mud at first", x.mud(), 0);
        Check.due("stopped at first", x.stopped(), -1);
        Check.due("drawn at first", x.drawn(0, 0), -1);
        Check.due("back at first", x.back(0), -2);
        Check.due("NONE", ListenWells.NONE, -1);
        Check.due("NOTHING", ListenWells.NOTHING, -100000);
    }

    private static void put() {
        ListenWells x = new ListenWells();
        int[] least = {0, 1, 0};
        int[] most = {3, 9, 99};
        int[] first = {0, 3, 0};
        for (int what = 0; what < 3; what++) {
            Check.due("put the least", x.put(39, what, least[what]), first[what]);
            Check.due("put the most", x.put(39, what, most[what]), least[what]);
            Check.due("put below", x.put(39, what, least[what] - 1), -1);
            Check.due("put above", x.put(39, what, most[what] + 1), -1);
            Check.due("put far above", x.put(39, what, MOST), -1);
            Check.due("put far below", x.put(39, what, LEAST), -1);
            Check.due("it is as it was", x.at(39, what), most[what]);
        }
        int[] badCells = {-1, 40, LEAST, MOST};
        for (int cell : badCells) {
            Check.due("put in no cell", x.put(cell, 0, 0), -1);
        }
        Check.due("put of no what", x.put(0, 3, 1), -1);
        Check.due("put of no what", x.put(0, -1, 1), -1);
        x.sink(0);
        Check.due("kind of a dug one", x.put(0, 0, 0), -3);
        Check.due("a bad kind of a dug one", x.put(0, 0, 4), -1);
        Check.due("hard of a dug one", x.put(0, 1, 7), 3);
        Check.due("water of a dug one", x.put(0, 2, 7), 0);
        Check.due("status behind put", x.status(), 0);
    }

    private static void at() {
        ListenWells x = new ListenWells();
        Check.due("no such cell", x.at(40, 0), -1);
        Check.due("no such cell", x.at(-1, 0), -1);
        Check.due("no such what", x.at(0, 6), -1);
        Check.due("no such what", x.at(0, -1), -1);
        Check.law(x, "says 200 if kind = 0;loses 0 - 5;says 0 - 1 if kind = 1");
        x.force(0);
        x.put(1, 0, 1);
        x.put(2, 0, 2);
        Check.due("says at most 99", x.at(0, 4), 99);
        Check.due("says at least 0", x.at(1, 4), 0);
        Check.due("says 20 without", x.at(2, 4), 20);
        Check.due("loses at least 0", x.at(2, 5), 0);
        x.sink(2);
        Check.due("dug", x.at(2, 3), 1);
    }

    private static void sink() {
        ListenWells x = new ListenWells();
        Check.due("no such column", x.sink(-1), -1);
        Check.due("no such column", x.sink(8), -1);
        x.put(3, 0, 1);
        Check.due("in sand", x.sink(3), -3);
        Check.law(x, "passes");
        x.force(0);
        Check.due("in sand that would be passed", x.sink(3), -3);
        x.put(4, 0, 2);
        x.put(5, 0, 3);
        Check.due("in rock", x.sink(0), 0);
        Check.due("in salt", x.sink(4), 1);
        Check.due("in water", x.sink(5), 2);
        Check.due("in a dug one", x.sink(0), -3);
        Check.due("dug cells", x.count(3), 3);
        x.sink(1);
        x.sink(2);
        Check.due("the sixth", x.sink(6), 5);
        Check.due("the seventh", x.sink(7), -5);
        Check.due("the seventh in sand", x.sink(3), -3);
        Check.due("the seventh in a dug one", x.sink(0), -3);
        Check.due("the seventh in no column", x.sink(8), -1);
        Check.due("it is not dug", x.at(7, 3), 0);
        Check.due("shafts", x.count(0), 6);
        Check.due("sinking takes no days", x.count(15), 0);
    }

    private static void of() {
        ListenWells x = new ListenWells();
        Check.due("no shaft", x.of(0, 0), -1);
        x.put(0, 0, 3);
        x.put(0, 2, 99);
        x.put(1, 0, 3);
        x.put(1, 2, 50);
        x.put(3, 0, 2);
        x.sink(0);
        x.sink(1);
        x.sink(3);
        x.sink(7);
        int[][] due = {{0, 0, 0, 1, 74}, {1, 0, 0, 1, 74}, {3, 0, 1, 0, 0}, {7, 0, 0, 0, 0}};
        for (int shaft = 0; shaft < 4; shaft++) {
            for (int what = 0; what < 5; what++) {
                Check.due("of(" + shaft + ", " + what + ")", x.of(shaft, what), due[shaft][what]);
            }
            Check.due("no such what", x.of(shaft, 5), -1);
            Check.due("no such what", x.of(shaft, -1), -1);
        }
        Check.due("no such shaft", x.of(4, 0), -1);
        Check.due("no such shaft", x.of(-1, 0), -1);
        x.haul(0);
        Check.due("buckets", x.of(0, 1), 5);
        Check.due("(94 + 50) / 2", x.of(1, 4), 72);
    }

    private static void listenersAndNoises() {
        ListenWells x = new ListenWells();
        int[][] bad = {{-1, 0}, {8, 0}, {0, -1}, {0, 21}, {LEAST, 0}, {0, MOST}};
        for (int[] numbers : bad) {
            Check.due("bad listener", x.listener(numbers[0], numbers[1]), -1);
            Check.due("bad noise", x.noise(numbers[0], numbers[1]), -1);
        }
        for (int k = 0; k < 5; k++) {
            Check.due("listener", x.listener(7, 20), k);
        }
        Check.due("no room", x.listener(0, 0), -5);
        Check.due("a bad one where no room is", x.listener(8, 0), -1);
        for (int k = 0; k < 6; k++) {
            Check.due("noise", x.noise(0, 0), k);
        }
        Check.due("no room", x.noise(0, 0), -5);
        Check.due("status", x.status(), -5);
        Check.due("listeners", x.count(1), 5);
        Check.due("noises", x.count(2), 6);
    }

    private static void who() {
        ListenWells x = new ListenWells();
        x.listener(3, 11);
        x.noise(6, 12);
        x.noise(2, 1);
        Check.due("column", x.who(0, 0), 3);
        Check.due("ear", x.who(0, 1), 11);
        Check.due("column of a noise", x.who(0, 2), 6);
        Check.due("loud", x.who(0, 3), 12);
        Check.due("hushed", x.who(1, 4), 0);
        x.hush(1);
        Check.due("hushed", x.who(1, 4), 1);
        Check.due("the other one", x.who(0, 4), 0);
        Check.due("no such listener", x.who(1, 0), -1);
        Check.due("no such noise", x.who(2, 2), -1);
        Check.due("no such k", x.who(-1, 0), -1);
        Check.due("no such k", x.who(-1, 4), -1);
        Check.due("no such what", x.who(0, 5), -1);
        Check.due("no such what", x.who(0, -1), -1);
    }

    private static void terms() {
        ListenWells x = new ListenWells();
        int[] most = {9999, 10, 9};
        int[] first = {0, 2, 0};
        for (int what = 0; what < 3; what++) {
            Check.due("the most", x.terms(what, most[what]), first[what]);
            Check.due("above", x.terms(what, most[what] + 1), -1);
            Check.due("below", x.terms(what, -1), -1);
            Check.due("count tells it", x.count(15 + what), most[what]);
            Check.due("the least", x.terms(what, 0), most[what]);
        }
        Check.due("no such term", x.terms(3, 0), -1);
        Check.due("no such term", x.terms(-1, 0), -1);
    }
}
