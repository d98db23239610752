/** Terms III, promises 31 to 37, 39, sentence by sentence: HEARSAY, HIDDEN, to LIE next, a TONGUE, VEINS, COMPARED. */
public final class LoreEdgesTest {
    private static final long ALL = (1L << 40) - 1;

    public static void main(String[] args) {
        heard();
        forget();
        hiddenWithoutHearsay();
        hiddenAsBits();
        hiddenJustAsLoud();
        hiddenBelow();
        hiddenKinds();
        nextFew();
        nextLowest();
        nextBelow();
        nextNone();
        nextByLaw();
        well();
        tongueAll();
        tongueFewest();
        tongueNone();
        veinHangs();
        veinWhat();
        has();
        compareLaws();
        compareSum();
        Check.end("LoreEdgesTest");
    }

    private static void heard() {
        Check.sentence("HEARSAY: how much there is. -1; -5.");
        ListenWells x = new ListenWells();
        for (int n = 1; n <= 8; n++) {
            Check.due("heard", x.heard(0, 18), n);
            Check.due("count", x.count(4), n);
        }
        Check.due("a ninth", x.heard(0, 18), -5);
        Check.due("count", x.count(4), 8);
        Check.due("the same eight times", x.hidden(), 1);
    }

    private static void forget() {
        Check.sentence("HEARSAY, WELLS are none then: how many there were together.");
        ListenWells x = new ListenWells();
        Check.due("none", x.forget(), 0);
        for (int n = 0; n < 8; n++) {
            x.heard(0, 99);
        }
        for (int n = 0; n < 10; n++) {
            x.well(63, 0);
        }
        Check.due("nothing hidden", x.hidden(), 0);
        Check.due("no tongue", x.tongue(0), -1);
        Check.due("all", x.forget(), 18);
        Check.due("hearsay", x.count(4), 0);
        Check.due("wells", x.count(5), 0);
        Check.due("all hidden", x.hidden(), ALL);
        Check.due("a tongue of nothing", x.tongue(0), 0);
        Check.due("none", x.forget(), 0);
        Check.due("from one on again", x.heard(0, 0), 1);
        Check.due("from one on again", x.well(0, 0), 1);
        Check.due("both", x.forget(), 2);
        x.heard(0, 0);
        Check.due("hearsay alone", x.forget(), 1);
        x.well(0, 0);
        Check.due("wells alone", x.forget(), 1);
        x.listener(1, 1);
        x.noise(1, 1);
        x.forget();
        Check.due("listeners stay", x.count(1), 1);
        Check.due("noises stay", x.count(2), 1);
    }

    private static void hiddenWithoutHearsay() {
        Check.sentence("HIDDEN: CELLS, not water, not DUG, in which water would be just as LOUD as all HEARSAY tells");
        ListenWells x = new ListenWells();
        Check.due("all", x.hidden(), ALL);
        for (int kind = 0; kind < 4; kind++) {
            x.put(20 + kind, 0, kind);
        }
        Check.due("not water", x.hidden(), ALL & ~(1L << 23));
        x.sink(0);
        x.dig(0, 1);
        Check.due("not dug", x.hidden(), ALL & ~(1L << 23 | 1L | 1L << 8));
        x.undo();
        Check.due("no more dug", x.hidden(), ALL & ~(1L << 23 | 1L));
    }

    private static void hiddenAsBits() {
        Check.sentence("HIDDEN: CELLS, as bits.");
        for (int cell = 0; cell < 40; cell++) {
            ListenWells x = new ListenWells();
            Check.law(x, "says 50+cell;loses 0");
            x.force(0);
            x.heard(cell % 8, 50 + cell);
            Check.due("bit of cell " + cell, x.hidden(), 1L << cell);
        }
    }

    private static void hiddenJustAsLoud() {
        Check.sentence("in which water would be just as LOUD as all HEARSAY tells");
        ListenWells x = new ListenWells();
        x.heard(3, 18);
        Check.due("18: the cell itself", x.hidden(), 1L << 3);
        x.forget();
        x.heard(3, 17);
        Check.due("17: none", x.hidden(), 0);
        x.forget();
        x.heard(3, 19);
        Check.due("19: none", x.hidden(), 0);
        x.forget();
        x.heard(3, 16);
        Check.due("16: beside and below", x.hidden(), 1L << 2 | 1L << 4 | 1L << 11);
        x.heard(2, 14);
        Check.due("and 14 there", x.hidden(), 1L << 4 | 1L << 11);
        x.heard(5, 16);
        Check.due("and 16 there", x.hidden(), 1L << 4);
        x.heard(5, 15);
        Check.due("both can't be", x.hidden(), 0);
    }

    private static void hiddenBelow() {
        Check.sentence("(what is below 0 as 0; KIND in laws 3)");
        ListenWells x = new ListenWells();
        x.heard(0, 0);
        long due = 0;
        for (int cell = 0; cell < 40; cell++) {
            if (x.loud(cell, 0) <= 0) {
                due |= 1L << cell;
            }
        }
        Check.due("0 and below", x.hidden(), due);
        Check.due("some are below", Long.bitCount(due) > 3 ? 1 : 0, 1);
        x.heard(0, 1);
        Check.due("not above", x.hidden(), 0);
    }

    private static void hiddenKinds() {
        Check.sentence("KIND in laws 3");
        ListenWells x = new ListenWells();
        Check.law(x, "says 50 if kind=3;says 40 if kind=0;loses 1 if kind=3;loses 5 if kind<3");
        x.force(0);
        for (int kind = 0; kind < 3; kind++) {
            x.put(3 + kind, 0, kind);
        }
        x.heard(3, 48);
        Check.due("of all kinds", x.hidden(), 1L << 2 | 1L << 4 | 1L << 11);
        Check.due("their kinds stay", x.at(4, 0), 1);
        Check.due("by its own kind it is not so loud", x.loud(2, 3), 40 - 2 * 5);
        ListenWells wet = new ListenWells();
        wet.put(2, 2, 44);
        wet.put(3, 2, 45);
        Check.law(wet, "says water;loses shaft+1");
        wet.force(0);
        wet.heard(7, 45);
        Check.due("WATER as it is, no shaft", wet.hidden(), 1L << 3);
    }

    /** Leaves rock in these cells alone: those are hidden then. */
    private static ListenWells onlyHidden(int... cells) {
        ListenWells x = new ListenWells();
        for (int cell = 0; cell < 40; cell++) {
            x.put(cell, 0, 3);
        }
        for (int cell : cells) {
            x.put(cell, 0, 0);
        }
        return x;
    }

    private static void nextIs(ListenWells x, int column, int left) {
        Check.due("column", x.next(0), column);
        Check.due("left at most", x.next(1), left);
    }

    private static void nextFew() {
        Check.sentence("To LIE next: the COLUMN in which the most of those HIDDEN are alike LOUD (those below 0 as 0) are as few as can be; the lowest.");
        // alike in column 0 alone
        nextIs(onlyHidden(1, 8), 1, 1);
        // alike in column 1 alone
        nextIs(onlyHidden(0, 2), 0, 1);
        // alike in columns 0 to 5, in columns 0 to 6
        nextIs(onlyHidden(6, 13), 6, 1);
        nextIs(onlyHidden(7, 14), 7, 1);
        // in columns 0 to 5 all three are alike, in column 6 two, in column 7 none
        nextIs(onlyHidden(7, 14, 21), 7, 1);
        // not in any column are all of them told apart
        nextIs(onlyHidden(5, 7, 14, 21), 7, 2);
        nextIs(onlyHidden(6, 20, 27, 38), 4, 2);
        nextIs(onlyHidden(0, 6, 9, 13, 20, 27), 4, 3);
    }

    private static void nextLowest() {
        Check.sentence("are as few as can be; the lowest.");
        nextIs(onlyHidden(0), 0, 1);
        nextIs(onlyHidden(39), 0, 1);
        // alike in columns 0 and 1: told apart in 2 and in all behind it
        nextIs(onlyHidden(2, 9), 2, 1);
        // told apart in every column
        nextIs(onlyHidden(6, 7, 23), 0, 1);
    }

    private static void nextBelow() {
        Check.sentence("(those below 0 as 0)");
        ListenWells x = onlyHidden(38, 39);
        // in column 0 they are -2 and -4: both 0; in column 1 0 and -2; in column 2 2 and 0
        nextIs(x, 2, 1);
        Check.law(x, "says 0;loses 9");
        x.force(0);
        nextIs(x, 0, 2);
        // 0 and 1 are not alike
        Check.law(x, "says 12;loses 1");
        x.force(1);
        nextIs(x, 0, 1);
        // in column 0 they are 2 and 0
        nextIs(onlyHidden(36, 37), 0, 1);
    }

    private static void nextNone() {
        Check.sentence("To LIE next: the COLUMN (what 0), how many are left at most (1). NONE (none HIDDEN).");
        ListenWells x = onlyHidden();
        Check.due("none hidden", x.next(0), -1);
        Check.due("none hidden", x.next(1), -1);
        ListenWells all = new ListenWells();
        int[] bad = {-1, 2, Integer.MIN_VALUE, Integer.MAX_VALUE};
        for (int what : bad) {
            Check.due("no such what", all.next(what), -1);
        }
        all.heard(0, 99);
        Check.due("hearsay that can't be", all.next(0), -1);
        Check.due("hearsay that can't be", all.next(1), -1);
        Check.law(all, "says 7;loses 0");
        all.forget();
        all.force(0);
        nextIs(all, 0, 40);
    }

    private static void nextByLaw() {
        Check.sentence("KIND in laws 3");
        ListenWells x = onlyHidden(3, 4, 5);
        Check.law(x, "says 90+column if kind=3;says 9;loses 0;says 98 if column>3 and kind=3;says 95 if column=3 and kind=3");
        x.force(0);
        nextIs(x, 0, 2);
        Check.law(x, "loses 0;says 99");
        x.force(1);
        nextIs(x, 0, 3);
        Check.law(x, "loses 0;says 97+column-3 if kind=3");
        x.force(2);
        nextIs(x, 0, 1);
        // at most alike in columns 0 to 7: 4, 3, 4, 3, 3, 4, 4, 4; there is no column 8, in which 2 would be
        ListenWells beyond = new ListenWells();
        Check.law(beyond, "says cell*28%37+40;loses cell%3");
        beyond.force(0);
        nextIs(beyond, 1, 3);
    }

    private static void well() {
        Check.sentence("A WELL: how many there are. -1; -5.");
        ListenWells x = new ListenWells();
        for (int n = 1; n <= 10; n++) {
            Check.due("well", x.well(6 * n, n % 2), n);
            Check.due("count", x.count(5), n);
        }
        Check.due("an eleventh", x.well(0, 0), -5);
        Check.due("count", x.count(5), 10);
    }

    private static void tongue(ListenWells x, int many, int which) {
        Check.due("how many", x.tongue(0), many);
        Check.due("which", x.tongue(1), which);
    }

    private static ListenWells wells(int... soundsAndWet) {
        ListenWells x = new ListenWells();
        for (int k = 0; k + 1 < soundsAndWet.length; k += 2) {
            x.well(soundsAndWet[k], soundsAndWet[k + 1]);
        }
        return x;
    }

    private static void tongueAll() {
        Check.sentence("A TONGUE: the fewest SOUNDS that all WELLS that are WET have together, and no other one has");
        tongue(wells(), 0, 0);
        tongue(wells(0, 1), 0, 0);
        tongue(wells(63, 1), 0, 0);
        tongue(wells(0b110, 1, 0b011, 1, 0b100, 0), 1, 0b010);
        tongue(wells(0b110, 1, 0b011, 1, 0b010, 0), -1, -1);
        tongue(wells(0b111, 1, 0b011, 0), 1, 0b100);
        // one that is dry may have some of them, not all
        tongue(wells(0b111, 1, 0b011, 0, 0b101, 0), 2, 0b110);
        tongue(wells(0b111, 1, 0b011, 0, 0b101, 0, 0b110, 0), 3, 0b111);
        tongue(wells(63, 1, 0b011111, 0, 0b101111, 0, 0b110111, 0, 0b111011, 0, 0b111101, 0, 0b111110, 0), 6, 63);
        // no wet one: whatever no dry one has
        tongue(wells(0, 0), 1, 1);
        tongue(wells(0b011111, 0), 1, 0b100000);
    }

    private static void tongueFewest() {
        Check.sentence("the lowest as bits");
        tongue(wells(63, 1, 0, 0), 1, 1);
        tongue(wells(63, 1, 1, 0), 1, 2);
        tongue(wells(0b101000, 1, 0, 0), 1, 0b001000);
        // two low ones or one high one: the fewest first
        tongue(wells(0b100011, 1, 0b000001, 0, 0b000010, 0), 1, 0b100000);
        tongue(wells(0b001111, 1, 0b000011, 0, 0b001100, 0, 0b000101, 0, 0b001010, 0), 2, 0b000110);
    }

    private static void tongueNone() {
        Check.sentence("A TONGUE: how many SOUNDS (what 0), which, as bits (1). NONE (none).");
        tongue(wells(0, 1, 0, 0), -1, -1);
        tongue(wells(63, 0), -1, -1);
        tongue(wells(5, 1, 5, 0), -1, -1);
        tongue(wells(5, 1, 10, 1, 0, 0), -1, -1);
        ListenWells x = wells(5, 1);
        int[] bad = {-1, 2, Integer.MIN_VALUE, Integer.MAX_VALUE};
        for (int what : bad) {
            Check.due("no such what", x.tongue(what), -1);
        }
    }

    private static void veinHangs() {
        Check.sentence("A VEIN: CELLS of water which hang together BESIDE each other.");
        ListenWells x = new ListenWells();
        // a snake through the whole rock, 7 to 15 and so on: not round the edges
        long snake = 0;
        int[] cells = {0, 1, 2, 3, 4, 5, 6, 7, 15, 23, 22, 21, 20, 19, 18, 17, 16, 24, 32, 33, 34, 35, 36, 37, 38, 39};
        for (int cell : cells) {
            x.put(cell, 0, 3);
            snake |= 1L << cell;
        }
        for (int cell : cells) {
            Check.due("the whole snake from " + cell, x.vein(cell, 0), snake);
        }
        x.put(19, 0, 2);
        Check.due("cut in two", Long.bitCount(x.vein(0, 0)), 13);
        Check.due("the other one", x.vein(39, 0), snake & ~x.vein(0, 0) & ~(1L << 19));
        ListenWells edge = new ListenWells();
        edge.put(7, 0, 3);
        edge.put(8, 0, 3);
        edge.put(17, 0, 3);
        Check.due("7 and 8", edge.vein(7, 0), 1L << 7);
        Check.due("8 and 17", edge.vein(8, 0), 1L << 8);
        for (int cell = 0; cell < 40; cell++) {
            edge.put(cell, 0, 3);
        }
        Check.due("all", edge.vein(20, 0), ALL);
        edge.sink(0);
        Check.due("dug ones, too", edge.vein(20, 0), ALL);
    }

    private static void veinWhat() {
        Check.sentence("The VEIN of a CELL of water: CELLS, as bits (what 0), WATER together (1), how many SHAFTS have FOUND there (2). NONE.");
        ListenWells x = new ListenWells();
        for (int kind = 0; kind < 4; kind++) {
            x.put(kind, 0, kind);
            x.put(kind, 2, 99);
            for (int what = 0; what < 3; what++) {
                int[] due = {8, 99, 0};
                Check.due("kind " + kind, x.vein(kind, what), kind == 3 ? due[what] : -1);
            }
        }
        int[] bad = {-1, 3, Integer.MIN_VALUE, Integer.MAX_VALUE};
        for (int what : bad) {
            Check.due("no such what", x.vein(3, what), -1);
        }
        for (int cell = 0; cell < 40; cell++) {
            x.put(cell, 0, 3);
            x.put(cell, 2, 99);
        }
        Check.due("the most", x.vein(39, 1), 40 * 99);
        for (int k = 0; k < 6; k++) {
            Check.due("shafts", x.vein(39, 2), k);
            x.sink(k);
        }
        Check.due("six shafts", x.vein(39, 2), 6);
    }

    private static void has() {
        Check.sentence("A SHAFT that has FOUND HAS of its VEIN's WATER a part as great as each other SHAFT there (cut).");
        ListenWells x = new ListenWells();
        int[] wet = {0, 1, 2, 4};
        for (int cell : wet) {
            x.put(cell, 0, 3);
            x.put(cell, 2, 10 + cell);
        }
        x.put(12, 0, 3);
        x.put(12, 2, 90);
        x.sink(0);
        Check.due("alone: 10 + 11 + 12", x.of(0, 4), 33);
        x.sink(2);
        Check.due("two: 33 / 2, cut", x.of(0, 4), 16);
        Check.due("the other as much", x.of(1, 4), 16);
        x.sink(4);
        Check.due("another vein's", x.of(2, 4), 104);
        Check.due("is no part of it", x.of(0, 4), 16);
        x.sink(5);
        x.sink(3);
        Check.due("a shaft beside, in rock", x.of(0, 4), 16);
        Check.due("has none", x.of(4, 4), 0);
        x.sink(1);
        Check.due("three: 33 / 3", x.of(5, 4), 11);
        x.haul(5);
        Check.due("three: 28 / 3, cut", x.of(0, 4), 9);
    }

    private static void compareLaws() {
        Check.sentence("COMPARED. NONE (no such LAW).");
        Check.due("no law", new ListenWells().compare(0), -1);
        Check.due("none is no such one", new ListenWells().compare(-1), 0);
        Check.sentence("COMPARED: by a LAW in place of that in FORCE (NONE: none)");
        ListenWells x = new ListenWells();
        x.put(39, 0, 3);
        x.listener(0, 0);
        int[] bad = {-2, 0, 6, Integer.MIN_VALUE, Integer.MAX_VALUE};
        for (int law : bad) {
            Check.due("no such law", x.compare(law), -1);
        }
        Check.due("none", x.compare(-1), 0);
        Check.law(x, "says 99");
        for (int k = 1; k < 6; k++) {
            Check.due("no such law yet", x.compare(k), -1);
            Check.law(x, k == 5 ? "loses 0" : "says 0");
        }
        Check.due("the first", x.compare(0), 1);
        Check.due("the second", x.compare(1), 0);
        Check.due("the last", x.compare(5), 1);
        x.force(0);
        Check.due("none, in place of the first", x.compare(-1), 0);
        Check.due("the second, in place of the first", x.compare(1), 0);
        Check.due("force stays", x.count(14), 0);
        Check.due("it is heard by that", x.hears(0), 1L << 39);
        Check.due("status stays", x.status(), 0);
    }

    private static void compareSum() {
        Check.sentence("how many LISTENERS HEAR how many CELLS, together.");
        ListenWells x = new ListenWells();
        Check.due("no one, nothing", x.compare(-1), 0);
        for (int cell = 0; cell < 40; cell++) {
            x.put(cell, 0, 3);
        }
        Check.due("no one", x.compare(-1), 0);
        for (int k = 0; k < 5; k++) {
            x.listener(k, 20);
            Check.due("all by each", x.compare(-1), 40 * (k + 1));
        }
        x.noise(0, 20);
        int heard = 0;
        for (int k = 0; k < 5; k++) {
            heard += Long.bitCount(x.hears(k));
        }
        Check.due("as each hears", x.compare(-1), heard);
        Check.due("fewer now", heard < 200 ? 1 : 0, 1);
    }
}
