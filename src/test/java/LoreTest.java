/** Promises 31 to 37, 39: HEARSAY, HIDDEN, to LIE next, WELLS, a TONGUE, VEINS, COMPARED. */
public final class LoreTest {
    private static final long ALL = (1L << 40) - 1;

    public static void main(String[] args) {
        heardAndForget();
        hidden();
        hiddenByLaw();
        next();
        well();
        tongue();
        vein();
        compare();
        Check.end("LoreTest");
    }

    private static void heardAndForget() {
        ListenWells x = new ListenWells();
        Check.due("nothing", x.forget(), 0);
        int[][] bad = {{-1, 0}, {8, 0}, {0, -1}, {0, 100}};
        for (int[] numbers : bad) {
            Check.due("bad", x.heard(numbers[0], numbers[1]), -1);
        }
        for (int n = 1; n <= 8; n++) {
            Check.due("heard", x.heard(7, 99), n);
        }
        Check.due("no room", x.heard(0, 0), -5);
        Check.due("a bad one where no room is", x.heard(8, 0), -1);
        x.well(0, 0);
        x.well(63, 1);
        Check.due("both", x.forget(), 10);
        Check.due("hearsay", x.count(4), 0);
        Check.due("wells", x.count(5), 0);
        Check.due("again", x.heard(0, 0), 1);
        Check.due("again", x.well(0, 0), 1);
    }

    private static void hidden() {
        ListenWells x = new ListenWells();
        Check.due("all", x.hidden(), ALL);
        x.put(5, 0, 3);
        x.sink(6);
        x.put(7, 0, 1);
        x.put(0, 0, 2);
        Check.due("no water, none that is dug", x.hidden(), ALL & ~(1L << 5 | 1L << 6));
        // 20 less 2 for each step: 14 is three steps, 2 columns or depths away
        x.heard(2, 14);
        Check.due("three steps", x.hidden(), 1L | 1L << 4 | 1L << 9 | 1L << 11 | 1L << 18);
        x.heard(0, 16);
        Check.due("there two", x.hidden(), 1L << 9 & x.hidden());
        x.forget();
        x.heard(0, 15);
        Check.due("never so loud", x.hidden(), 0);
        x.forget();
        x.heard(0, 0);
        // ten steps or more
        long far = 0;
        for (int cell = 0; cell < 40; cell++) {
            if (cell % 8 + cell / 8 + 1 >= 10) {
                far |= 1L << cell;
            }
        }
        Check.due("below 0 as 0", x.hidden(), far);
    }

    private static void hiddenByLaw() {
        ListenWells x = new ListenWells();
        Check.law(x, "says 40 if kind = 3;loses 1 if kind = 3 and shaft = 0 - 1");
        x.force(0);
        x.put(9, 0, 1);
        x.heard(1, 38);
        Check.due("kind in laws is 3", x.hidden(), 1L | 1L << 2 | 1L << 9);
        x.put(1, 2, 30);
        Check.law(x, "says water;loses 0");
        x.force(1);
        x.forget();
        x.heard(5, 30);
        Check.due("water in laws", x.hidden(), 2);
    }

    private static void next() {
        ListenWells x = new ListenWells();
        Check.due("no such what", x.next(2), -1);
        Check.due("no such what", x.next(-1), -1);
        x.heard(2, 14);
        // hidden: 0, 4, 9, 11, 18; in column 0 they are 1, 5, 3, 5, 5 steps away, in none are fewer alike
        Check.due("column", x.next(0), 0);
        Check.due("left at most", x.next(1), 3);
        x.forget();
        for (int cell = 0; cell < 40; cell++) {
            x.put(cell, 0, 3);
        }
        Check.due("none hidden", x.next(0), -1);
        Check.due("none hidden", x.next(1), -1);
        x.put(12, 0, 0);
        Check.due("one hidden", x.next(0), 0);
        Check.due("one hidden", x.next(1), 1);
        for (int what = 0; what < 2; what++) {
            ListenWells byLaw = new ListenWells();
            Check.law(byLaw, "says 50;loses 0 if column < 4;loses 9 - depth;says depth if column < 4;loses 0 if column < 4");
            byLaw.force(0);
            Check.due("by law, what " + what, byLaw.next(what), bruteNext(byLaw, what));
        }
    }

    /** For laws that do not ask for the kind. */
    private static int bruteNext(ListenWells x, int what) {
        long hidden = x.hidden();
        int best = -1;
        int fewest = 100;
        for (int column = 0; column < 8; column++) {
            int[] alike = new int[100];
            int most = 0;
            for (int cell = 0; cell < 40; cell++) {
                if ((hidden >> cell & 1) != 0) {
                    most = Math.max(most, ++alike[Math.max(0, x.loud(cell, column))]);
                }
            }
            if (most < fewest) {
                fewest = most;
                best = column;
            }
        }
        return what == 0 ? best : fewest;
    }

    private static void well() {
        ListenWells x = new ListenWells();
        int[][] bad = {{-1, 0}, {64, 0}, {0, -1}, {0, 2}};
        for (int[] numbers : bad) {
            Check.due("bad", x.well(numbers[0], numbers[1]), -1);
        }
        for (int n = 1; n <= 10; n++) {
            Check.due("well", x.well(63, 1), n);
        }
        Check.due("no room", x.well(0, 0), -5);
        Check.due("a bad one where no room is", x.well(64, 0), -1);
        Check.due("wells", x.count(5), 10);
    }

    private static void tongue() {
        ListenWells x = new ListenWells();
        Check.due("no such what", x.tongue(2), -1);
        Check.due("no such what", x.tongue(-1), -1);
        Check.due("no wells", x.tongue(0), 0);
        x.well(0b101100, 1);
        x.well(0b001101, 1);
        Check.due("no other one", x.tongue(0), 0);
        x.well(0b010010, 0);
        Check.due("one of both", x.tongue(0), 1);
        Check.due("the lowest", x.tongue(1), 0b000100);
        x.well(0b000100, 0);
        Check.due("the other one", x.tongue(1), 0b001000);
        x.well(0b001000, 0);
        Check.due("both", x.tongue(0), 2);
        Check.due("both", x.tongue(1), 0b001100);
        x.well(0b001100, 0);
        Check.due("none", x.tongue(0), -1);
        Check.due("none", x.tongue(1), -1);
        x.forget();
        x.well(0b000011, 0);
        Check.due("dry ones alone: one that none of them has", x.tongue(1), 0b000100);
        x.well(0b000100, 0);
        Check.due("dry ones alone", x.tongue(0), 1);
        Check.due("dry ones alone", x.tongue(1), 0b001000);
        x.well(0b111000, 0);
        Check.due("no one has both", x.tongue(0), 2);
        Check.due("no one has both", x.tongue(1), 0b000101);
        x.forget();
        x.well(63, 0);
        Check.due("has all", x.tongue(0), -1);
    }

    private static void vein() {
        ListenWells x = new ListenWells();
        int[] cells = {6, 7, 8, 14, 22, 39, 38};
        for (int cell : cells) {
            x.put(cell, 0, 3);
            x.put(cell, 2, cell);
        }
        x.put(15, 2, 99);
        long first = 1L << 6 | 1L << 7 | 1L << 14 | 1L << 22;
        Check.due("not round the edge", x.vein(7, 0), first);
        Check.due("the same from below", x.vein(22, 0), first);
        Check.due("alone", x.vein(8, 0), 1L << 8);
        Check.due("the last", x.vein(39, 0), 3L << 38);
        Check.due("water", x.vein(6, 1), 6 + 7 + 14 + 22);
        Check.due("shafts", x.vein(6, 2), 0);
        x.sink(6);
        x.sink(7);
        x.sink(0);
        Check.due("shafts", x.vein(22, 2), 2);
        Check.due("shafts elsewhere", x.vein(39, 2), 0);
        Check.due("a part each, cut", x.of(0, 4), 49 / 2);
        Check.due("no water", x.vein(15, 0), -1);
        Check.due("no such cell", x.vein(40, 0), -1);
        Check.due("no such cell", x.vein(-1, 0), -1);
        Check.due("no such what", x.vein(6, 3), -1);
        Check.due("no such what", x.vein(6, -1), -1);
    }

    private static void compare() {
        ListenWells x = new ListenWells();
        Check.due("no such law", x.compare(0), -1);
        Check.due("no such law", x.compare(-2), -1);
        x.put(8, 0, 3);
        x.put(39, 0, 3);
        x.listener(0, 0);
        x.listener(7, 0);
        x.noise(3, 10);
        // noise 7 in column 0, 6 in column 7: 16, -4; 2, 10
        Check.due("none", x.compare(-1), 2);
        Check.law(x, "says 99;loses 0");
        Check.law(x, "says 0");
        Check.due("all", x.compare(0), 4);
        Check.due("none heard", x.compare(1), 0);
        x.force(1);
        Check.due("in place of that in force", x.compare(-1), 2);
        Check.due("in place of that in force", x.compare(0), 4);
        Check.due("force stays", x.count(14), 1);
        Check.due("hears by it", x.hears(0), 0);
        Check.due("no such law", x.compare(2), -1);
    }
}
