/** Terms I and promises 1 to 9, sentence by sentence: what just can be, and what just can't. */
public final class PlacesEdgesTest {
    private static final int LEAST = Integer.MIN_VALUE;
    private static final int MOST = Integer.MAX_VALUE;

    public static void main(String[] args) {
        constants();
        newObject();
        cells();
        gangCells();
        columns();
        depths();
        kinds();
        hardness();
        water();
        waterAlone();
        dugAtFirst();
        beside();
        shafts();
        buckets();
        spoiltAndFound();
        listeners();
        noises();
        hearsay();
        wells();
        terms();
        putTellsWhatWas();
        kindOfDug();
        atWhat();
        sinkTells();
        ofWhat();
        listenerTells();
        noiseTells();
        whoWhat();
        termsTell();
        Check.end("PlacesEdgesTest");
    }

    private static void constants() {
        Check.sentence("`NONE = -1`: There is none.");
        Check.due("NONE", ListenWells.NONE, -1);
        Check.due("no force", new ListenWells().force(ListenWells.NONE), ListenWells.NONE);
        Check.sentence("`NOTHING = -100000`: What is not there, where it could be below 0.");
        Check.due("NOTHING", ListenWells.NOTHING, -100000);
        Check.due("no cell", new ListenWells().loud(40, 0), ListenWells.NOTHING);
    }

    private static void newObject() {
        Check.sentence("`ListenWells()`: Dry rock.");
        ListenWells x = new ListenWells();
        int[] due = {0, 3, 0, 0, 20, 2};
        for (int cell = 0; cell < 40; cell++) {
            for (int what = 0; what < due.length; what++) {
                Check.due("at(" + cell + ", " + what + ")", x.at(cell, what), due[what]);
            }
            Check.due("no vein", x.vein(cell, 0), -1);
        }
        int[] counts = {0, 0, 0, 0, 0, 0, 0, 0, 0, 0, 0, 0, 0, 0, -1, 0, 2, 0};
        for (int what = 0; what < counts.length; what++) {
            Check.due("count(" + what + ")", x.count(what), counts[what]);
        }
        Check.due("status", x.status(), 0);
        Check.due("fault", x.fault(), -1);
        Check.due("stopped", x.stopped(), -1);
        Check.due("mud", x.mud(), 0);
        Check.due("drawn", x.drawn(0, 2), -1);
        Check.due("hidden", x.hidden(), (1L << 40) - 1);
        Check.due("tongue", x.tongue(1), 0);
        Check.due("undo", x.undo(), -3);
        Check.due("back", x.back(0), -2);
        Check.due("back", x.back(1), -2);
        ListenWells other = new ListenWells();
        other.put(0, 0, 3);
        other.sink(0);
        other.terms(1, 9);
        Check.due("one is not another", x.at(0, 0), 0);
        Check.due("one is not another", x.count(0), 0);
        Check.due("one is not another", x.count(16), 2);
    }

    private static void cells() {
        Check.sentence("CELLS 0 .. 39");
        ListenWells x = new ListenWells();
        x.sink(0);
        x.put(0, 2, 1);
        int[] bad = {-1, 40, LEAST, MOST};
        for (int cell : bad) {
            for (int what = 0; what < 3; what++) {
                Check.due("put", x.put(cell, what, 1), -1);
                Check.due("asks", x.asks(0, cell, what), -1);
                Check.due("vein", x.vein(cell, what), -1);
                Check.due("down", x.down(0, cell, what), -1);
                Check.due("quiet", x.quiet(0, cell, what), -1);
            }
            for (int what = 0; what < 6; what++) {
                Check.due("at", x.at(cell, what), -1);
            }
            Check.due("loud", x.loud(cell, 0), -100000);
            Check.due("time", x.time(0, cell, 200), -1);
        }
        x.put(39, 0, 3);
        Check.due("put in the first", x.put(0, 2, 9), 1);
        Check.due("put in the last", x.put(39, 2, 8), 0);
        Check.due("at the first", x.at(0, 2), 9);
        Check.due("at the last", x.at(39, 2), 8);
        Check.due("asks of the first", x.asks(0, 0, 0), 3);
        Check.due("asks of the last", x.asks(0, 39, 0), 3);
        Check.due("loud, the first", x.loud(0, 0), 18);
        Check.due("loud, the last", x.loud(39, 7), 10);
        Check.due("down to the last", x.down(0, 39, 0), 33);
        Check.due("time to the last", x.time(0, 39, 32), 0);
        Check.due("vein of the last", x.vein(39, 0), 1L << 39);
        Check.due("quiet for the last", x.quiet(0, 39, 0), 0);
        ListenWells wet = new ListenWells();
        wet.put(0, 0, 3);
        Check.due("vein of the first", wet.vein(0, 0), 1);
        Check.due("quiet for the first", wet.quiet(0, 0, 0), 0);
    }

    private static void gangCells() {
        Check.sentence("CELLS 0 .. 39");
        ListenWells x = new ListenWells();
        x.sink(7);
        Check.due("gang for the last", x.gangs(1L << 39, 0), 12);
        Check.due("gang for the first", x.gangs(1L, 0), 21);
        for (int bit = 40; bit < 64; bit++) {
            Check.due("gang for cell " + bit, x.gangs(1L << bit, 0), -1);
            Check.due("gang for cell " + bit + ", too", x.gangs(1L << bit | 1, 0), -1);
        }
    }

    private static void columns() {
        Check.sentence("columns x 0 .. 7");
        ListenWells x = new ListenWells();
        x.listener(3, 3);
        int[] bad = {-1, 8, LEAST, MOST};
        for (int column : bad) {
            Check.due("sink", x.sink(column), -1);
            Check.due("listener", x.listener(column, 0), -1);
            Check.due("noise", x.noise(column, 0), -1);
            Check.due("heard", x.heard(column, 0), -1);
            Check.due("lie", x.lie(0, column), -1);
            Check.due("loud", x.loud(0, column), -100000);
            Check.due("din", x.din(column), -1);
        }
        int[] good = {0, 7};
        for (int k = 0; k < 2; k++) {
            Check.due("listener", x.listener(good[k], 0), 1 + k);
            Check.due("listener's", x.who(1 + k, 0), good[k]);
            Check.due("noise", x.noise(good[k], 1), k);
            Check.due("noise's", x.who(k, 2), good[k]);
            Check.due("din", x.din(good[k]), 1);
            Check.due("heard", x.heard(good[k], 0), 1 + k);
            Check.due("lie", x.lie(0, good[k]), k == 0 ? 3 : 0);
            Check.due("lies in", x.who(0, 0), good[k]);
            Check.due("loud", x.loud(0, good[k]), 18 - 2 * good[k]);
            Check.due("sink", x.sink(good[k]), k);
            Check.due("in cell", x.of(k, 0), good[k]);
        }
    }

    private static void depths() {
        Check.sentence("(8 z and x; columns x 0 .. 7, depths z 0 .. 4, 0 uppermost)");
        ListenWells x = new ListenWells();
        Check.law(x, "says 10 * depth + column");
        x.force(0);
        for (int z = 0; z < 5; z++) {
            for (int column = 0; column < 8; column++) {
                Check.due("depth, column", x.at(8 * z + column, 4), 10 * z + column);
            }
        }
        x.sink(4);
        Check.due("down from depth 0 is depth 1", x.dig(0, 1), 12);
    }

    private static void kinds() {
        Check.sentence("KIND 0 rock (at first), 1 sand, 2 salt, 3 water");
        ListenWells x = new ListenWells();
        for (int cell = 0; cell < 40; cell++) {
            Check.due("at first", x.at(cell, 0), 0);
        }
        int[] bad = {-1, 4, LEAST, MOST};
        for (int kind : bad) {
            Check.due("no kind", x.put(0, 0, kind), -1);
        }
        for (int kind = 0; kind < 4; kind++) {
            Check.due("put", x.put(kind, 0, kind), 0);
            Check.due("at", x.at(kind, 0), kind);
        }
        Check.due("rock can be sunk in", x.sink(0), 0);
        Check.due("sand can't", x.sink(1), -3);
        Check.due("salt can", x.sink(2), 1);
        Check.due("water can", x.sink(3), 2);
        Check.due("salt spoils", x.of(1, 2), 1);
        Check.due("water is found", x.of(2, 3), 1);
    }

    private static void hardness() {
        Check.sentence("HARD 1 .. 9 (3 at first)");
        ListenWells x = new ListenWells();
        for (int cell = 0; cell < 40; cell++) {
            Check.due("at first", x.at(cell, 1), 3);
        }
        int[] bad = {0, -1, 10, LEAST, MOST};
        for (int hard : bad) {
            Check.due("can't be", x.put(5, 1, hard), -1);
        }
        Check.due("the least", x.put(5, 1, 1), 3);
        Check.due("the most", x.put(5, 1, 9), 1);
        Check.due("it is", x.at(5, 1), 9);
    }

    private static void water() {
        Check.sentence("WATER 0 .. 99 (0 at first");
        ListenWells x = new ListenWells();
        for (int cell = 0; cell < 40; cell++) {
            Check.due("at first", x.at(cell, 2), 0);
        }
        int[] bad = {-1, 100, LEAST, MOST};
        for (int water : bad) {
            Check.due("can't be", x.put(5, 2, water), -1);
        }
        Check.due("the most", x.put(5, 2, 99), 0);
        Check.due("the least", x.put(5, 2, 0), 99);
        Check.due("it is", x.at(5, 2), 0);
    }

    private static void waterAlone() {
        Check.sentence("of all kinds told, of water alone used");
        for (int kind = 0; kind < 4; kind++) {
            ListenWells x = new ListenWells();
            x.put(9, 0, kind);
            Check.due("put, kind " + kind, x.put(9, 2, 40), 0);
            Check.due("told, kind " + kind, x.at(9, 2), 40);
            x.put(10, 0, 3);
            x.put(10, 2, 7);
            Check.due("of the vein beside, kind " + kind, x.vein(10, 1), kind == 3 ? 47 : 7);
        }
        ListenWells dry = new ListenWells();
        dry.put(0, 2, 50);
        dry.put(1, 2, 50);
        dry.put(1, 0, 2);
        dry.sink(0);
        dry.sink(1);
        Check.due("a shaft in rock has none", dry.of(0, 4), 0);
        Check.due("a shaft in salt has none", dry.of(1, 4), 0);
        Check.due("nor hauls", dry.haul(0), -3);
        Check.due("nor hauls", dry.haul(1), -3);
        dry.listener(0, 20);
        Check.due("nor is it heard", dry.hears(0), 0);
    }

    private static void dugAtFirst() {
        Check.sentence("DUG or not (at first)");
        ListenWells x = new ListenWells();
        for (int cell = 0; cell < 40; cell++) {
            Check.due("at first", x.at(cell, 3), 0);
        }
        x.sink(7);
        x.dig(0, 1);
        Check.due("the first one stays", x.at(7, 3), 1);
        Check.due("the last one", x.at(15, 3), 1);
        Check.due("no other", x.count(3), 2);
    }

    private static void beside() {
        Check.sentence("CELLS are BESIDE each other left and right, up and down.");
        for (int cell = 0; cell < 40; cell++) {
            for (int other = 0; other < 40; other++) {
                int apart = Math.abs(cell % 8 - other % 8) + Math.abs(cell / 8 - other / 8);
                if (apart != 0 && (apart == 1 || Math.abs(cell - other) < 10)) {
                    ListenWells x = new ListenWells();
                    x.put(cell, 0, 3);
                    x.put(other, 0, 3);
                    long both = 1L << cell | 1L << other;
                    Check.due(cell + " and " + other, x.vein(cell, 0), apart == 1 ? both : 1L << cell);
                }
            }
        }
    }

    private static void shafts() {
        Check.sentence("SHAFTS 0 .. 5 (6 at most): a CELL (the last one DUG)");
        ListenWells x = new ListenWells();
        for (int k = 0; k < 6; k++) {
            Check.due("sink", x.sink(k), k);
        }
        Check.due("a seventh", x.sink(6), -5);
        Check.due("is not dug", x.at(6, 3), 0);
        Check.due("count", x.count(0), 6);
        int[] bad = {-1, 6, LEAST, MOST};
        for (int shaft : bad) {
            Check.due("of", x.of(shaft, 0), -1);
            Check.due("asks", x.asks(shaft, 30, 0), -1);
            Check.due("dig", x.dig(shaft, 1), -2);
            Check.due("haul", x.haul(shaft), -2);
            Check.due("down", x.down(shaft, 30, 0), -1);
            Check.due("time", x.time(shaft, 30, 99), -1);
        }
        Check.due("the last digs", x.dig(5, 1), 13);
        Check.due("its cell", x.of(5, 0), 13);
        Check.due("the first's cell", x.of(0, 0), 0);
        Check.due("the last asks", x.asks(5, 30, 0), 3);
        Check.due("the last one's way", x.down(5, 21, 0), 3);
        Check.due("the last one in time", x.time(5, 21, 2), 0);
        ListenWells few = new ListenWells();
        few.sink(0);
        few.sink(1);
        Check.due("one that there is not yet", few.of(2, 0), -1);
        Check.due("one that there is not yet", few.dig(2, 1), -2);
        Check.due("one that there is not yet", few.haul(2), -2);
        Check.due("one that there is not yet", few.asks(2, 30, 0), -1);
        Check.due("one that there is not yet", few.down(2, 30, 0), -1);
        Check.due("one that there is not yet", few.time(2, 30, 99), -1);
    }

    private static void buckets() {
        Check.sentence("BUCKETS 0 .. 9,999 (0 at first)");
        ListenWells x = new ListenWells();
        Check.law(x, "gives 99");
        x.force(0);
        x.put(0, 0, 3);
        x.sink(0);
        Check.due("at first", x.of(0, 1), 0);
        for (int n = 0; n < 101; n++) {
            x.put(0, 2, n == 100 ? 98 : 99);
            x.haul(0);
        }
        Check.due("one below the most", x.of(0, 1), 9998);
        x.put(0, 2, 5);
        Check.due("gives all the same", x.haul(0), 5);
        Check.due("no more than 9,999", x.of(0, 1), 9999);
        Check.due("water is less all the same", x.at(0, 2), 0);
        Check.due("undone", x.undo(), 1);
        Check.due("just as many as ahead of it", x.of(0, 1), 9998);
        Check.due("and the water", x.at(0, 2), 5);
        x.put(0, 2, 1);
        x.haul(0);
        Check.due("just 9,999", x.of(0, 1), 9999);
    }

    private static void spoiltAndFound() {
        Check.sentence("a SHAFT in salt is SPOILT, one in water has FOUND");
        for (int kind = 0; kind < 4; kind++) {
            ListenWells x = new ListenWells();
            Check.law(x, "passes");
            x.force(0);
            x.put(0, 0, kind);
            x.put(12, 0, kind);
            int byDigging = x.sink(4);
            Check.due("dig into kind " + kind, x.dig(byDigging, 1), 12);
            Check.due("SPOILT in kind " + kind, x.of(byDigging, 2), kind == 2 ? 1 : 0);
            Check.due("FOUND in kind " + kind, x.of(byDigging, 3), kind == 3 ? 1 : 0);
            if (kind != 1) {
                int bySinking = x.sink(0);
                Check.due("SPOILT at once in kind " + kind, x.of(bySinking, 2), kind == 2 ? 1 : 0);
                Check.due("FOUND at once in kind " + kind, x.of(bySinking, 3), kind == 3 ? 1 : 0);
            }
        }
        ListenWells undone = new ListenWells();
        undone.put(12, 0, 2);
        undone.sink(4);
        undone.dig(0, 1);
        Check.due("spoilt", undone.of(0, 2), 1);
        undone.undo();
        Check.due("no more when it is undone", undone.of(0, 2), 0);
    }

    private static void listeners() {
        Check.sentence("LISTENERS 0 .. 4 (5 at most): a COLUMN, EAR 0 .. 20.");
        ListenWells x = new ListenWells();
        int[] badEars = {-1, 21, LEAST, MOST};
        for (int ear : badEars) {
            Check.due("ear", x.listener(0, ear), -1);
        }
        for (int k = 0; k < 5; k++) {
            Check.due("one that there is not yet", x.who(k, 0), -1);
            Check.due("one that there is not yet", x.hears(k), -1);
            Check.due("one that there is not yet", x.lie(k, 0), -2);
            Check.due("listener", x.listener(k, 5 * k), k);
            Check.due("column", x.who(k, 0), k);
            Check.due("ear", x.who(k, 1), 5 * k);
        }
        Check.due("a sixth", x.listener(0, 0), -5);
        Check.due("count", x.count(1), 5);
        int[] bad = {-1, 5, LEAST, MOST};
        for (int k : bad) {
            Check.due("who", x.who(k, 0), -1);
            Check.due("who", x.who(k, 1), -1);
            Check.due("hears", x.hears(k), -1);
            Check.due("lie", x.lie(k, 0), -2);
        }
        Check.due("the last lies", x.lie(4, 7), 4);
        Check.due("the last hears", x.hears(4), 0);
    }

    private static void noises() {
        Check.sentence("NOISES 0 .. 5 (6 at most): a COLUMN, LOUD 0 .. 20, HUSHED or not (at first).");
        ListenWells x = new ListenWells();
        int[] badLoud = {-1, 21, LEAST, MOST};
        for (int loud : badLoud) {
            Check.due("loud", x.noise(0, loud), -1);
        }
        for (int k = 0; k < 6; k++) {
            Check.due("one that there is not yet", x.who(k, 2), -1);
            Check.due("one that there is not yet", x.hush(k), -2);
            Check.due("noise", x.noise(k, 4 * k), k);
            Check.due("column", x.who(k, 2), k);
            Check.due("loud", x.who(k, 3), 4 * k);
            Check.due("not hushed", x.who(k, 4), 0);
        }
        Check.due("a seventh", x.noise(0, 0), -5);
        Check.due("count", x.count(2), 6);
        int[] bad = {-1, 6, LEAST, MOST};
        for (int k : bad) {
            for (int what = 2; what < 5; what++) {
                Check.due("who", x.who(k, what), -1);
            }
            Check.due("hush", x.hush(k), -2);
        }
        x.hush(5);
        Check.due("hushed", x.who(5, 4), 1);
        Check.due("the one ahead of it is not", x.who(4, 4), 0);
    }

    private static void hearsay() {
        Check.sentence("HEARSAY, 8 at most: in a COLUMN one spring more was just so loud (0 .. 99).");
        ListenWells x = new ListenWells();
        int[] badLoud = {-1, 100, LEAST, MOST};
        for (int loud : badLoud) {
            Check.due("loud", x.heard(0, loud), -1);
        }
        Check.due("the least", x.heard(0, 0), 1);
        Check.due("the most", x.heard(0, 99), 2);
        for (int n = 3; n <= 8; n++) {
            Check.due("heard", x.heard(n - 1, 50), n);
        }
        Check.due("a ninth", x.heard(0, 0), -5);
        Check.due("count", x.count(4), 8);
        // each of the eight must be so: only cell 0 is 18 - 2 k loud in column k, and the last one differs
        ListenWells each = new ListenWells();
        for (int k = 0; k < 7; k++) {
            each.heard(k, 18 - 2 * k);
        }
        Check.due("seven", each.hidden(), 1);
        each.heard(7, 5);
        Check.due("the eighth binds, too", each.hidden(), 0);
    }

    private static void wells() {
        Check.sentence("WELLS, 10 at most: SOUNDS as six bits, WET or not.");
        ListenWells x = new ListenWells();
        int[] badSounds = {-1, 64, LEAST, MOST};
        for (int sounds : badSounds) {
            Check.due("sounds", x.well(sounds, 0), -1);
            Check.due("sounds", x.well(sounds, 1), -1);
        }
        int[] badWet = {-1, 2, LEAST, MOST};
        for (int wet : badWet) {
            Check.due("wet", x.well(0, wet), -1);
        }
        Check.due("none of six", x.well(0, 0), 1);
        Check.due("all six", x.well(63, 1), 2);
        for (int n = 3; n <= 9; n++) {
            Check.due("well", x.well(63, 1), n);
        }
        Check.due("the highest sound", x.tongue(1), 1);
        Check.due("the tenth", x.well(31, 0), 10);
        Check.due("the tenth counts, too", x.tongue(1), 32);
        Check.due("an eleventh", x.well(0, 0), -5);
        Check.due("count", x.count(5), 10);
    }

    private static void terms() {
        Check.sentence("TERMS: 0 DAY 0 .. 9,999 (0 at first), 1 THUNDER 0 .. 10 (2), 2 MOOD 0 .. 9 (0).");
        int[] most = {9999, 10, 9};
        int[] first = {0, 2, 0};
        for (int what = 0; what < 3; what++) {
            ListenWells x = new ListenWells();
            Check.due("at first", x.count(15 + what), first[what]);
            int[] bad = {-1, most[what] + 1, LEAST, MOST};
            for (int value : bad) {
                Check.due("can't be", x.terms(what, value), -1);
            }
            Check.due("as it was", x.count(15 + what), first[what]);
            Check.due("the most", x.terms(what, most[what]), first[what]);
            Check.due("it is", x.count(15 + what), most[what]);
            Check.due("the least", x.terms(what, 0), most[what]);
            Check.due("it is", x.count(15 + what), 0);
            for (int other = 0; other < 3; other++) {
                Check.due("the others stay", x.count(15 + other), other == what ? 0 : first[other]);
            }
        }
        ListenWells x = new ListenWells();
        int[] badTerm = {-1, 3, LEAST, MOST};
        for (int what : badTerm) {
            Check.due("no such term", x.terms(what, 0), -1);
        }
    }

    private static void putTellsWhatWas() {
        Check.sentence("KIND (what 0), HARD (1), WATER (2) of a CELL: what it was.");
        ListenWells x = new ListenWells();
        Check.due("kind", x.put(20, 0, 2), 0);
        Check.due("kind", x.put(20, 0, 2), 2);
        Check.due("hard", x.put(20, 1, 8), 3);
        Check.due("hard", x.put(20, 1, 1), 8);
        Check.due("water", x.put(20, 2, 77), 0);
        Check.due("water", x.put(20, 2, 0), 77);
        Check.due("kind stays", x.at(20, 0), 2);
        Check.due("hard stays", x.at(20, 1), 1);
        Check.due("another cell stays", x.at(19, 1), 3);
        int[] bad = {-1, 3, LEAST, MOST};
        for (int what : bad) {
            Check.due("no such what", x.put(20, what, 1), -1);
        }
    }

    private static void kindOfDug() {
        Check.sentence("-1; -3 KIND of one that is DUG.");
        ListenWells x = new ListenWells();
        x.sink(2);
        x.dig(0, 1);
        for (int kind = 0; kind < 4; kind++) {
            Check.due("sunk in", x.put(2, 0, kind), -3);
            Check.due("dug", x.put(10, 0, kind), -3);
        }
        Check.due("it stays", x.at(10, 0), 0);
        Check.due("hard can be put", x.put(10, 1, 5), 3);
        Check.due("water can be put", x.put(10, 2, 5), 0);
        Check.due("beside it, too", x.put(11, 0, 1), 0);
        ListenWells undone = new ListenWells();
        undone.sink(2);
        undone.dig(0, 1);
        undone.undo();
        Check.due("no more dug", undone.put(10, 0, 3), 0);
    }

    private static void atWhat() {
        Check.sentence("Of a CELL KIND (what 0), HARD (1), WATER (2), DUG (3: 1, 0), what it SAYS (4), LOSES (5). NONE.");
        ListenWells x = new ListenWells();
        x.put(3, 0, 2);
        x.put(3, 1, 7);
        x.put(3, 2, 55);
        x.sink(3);
        int[] due = {2, 7, 55, 1, 20, 2};
        for (int what = 0; what < 6; what++) {
            Check.due("what " + what, x.at(3, what), due[what]);
        }
        int[] bad = {-1, 6, LEAST, MOST};
        for (int what : bad) {
            Check.due("no such what", x.at(3, what), -1);
        }
    }

    private static void sinkTells() {
        Check.sentence("To SINK a SHAFT: its number. -1; -3; -5.");
        ListenWells x = new ListenWells();
        x.put(6, 0, 1);
        int[] columns = {5, 3, 3, 6, 8, -1, 0, 1, 2, 4, 7, 7, 3};
        int[] due = {0, 1, -3, -3, -1, -1, 2, 3, 4, 5, -5, -5, -3};
        for (int k = 0; k < columns.length; k++) {
            Check.due("sink(" + columns[k] + ")", x.sink(columns[k]), due[k]);
        }
        int[] cells = {5, 3, 0, 1, 2, 4};
        for (int k = 0; k < 6; k++) {
            Check.due("of(" + k + ", 0)", x.of(k, 0), cells[k]);
        }
    }

    private static void listenerTells() {
        Check.sentence("A LISTENER: the number. -1; -5.");
        ListenWells x = new ListenWells();
        Check.due("first", x.listener(7, 20), 0);
        Check.due("no such ear", x.listener(7, 21), -1);
        Check.due("second", x.listener(0, 0), 1);
        Check.due("no such column", x.listener(8, 0), -1);
        for (int k = 2; k < 5; k++) {
            Check.due("next", x.listener(0, 0), k);
        }
        Check.due("no room", x.listener(0, 0), -5);
        Check.due("the first stays", x.who(0, 1), 20);
    }

    private static void noiseTells() {
        Check.sentence("A NOISE: its number. -1; -5.");
        ListenWells x = new ListenWells();
        Check.due("first", x.noise(7, 20), 0);
        Check.due("not so loud", x.noise(7, 21), -1);
        Check.due("second", x.noise(0, 0), 1);
        Check.due("no such column", x.noise(8, 0), -1);
        for (int k = 2; k < 6; k++) {
            Check.due("next", x.noise(0, 0), k);
        }
        Check.due("no room", x.noise(0, 0), -5);
        x.hush(0);
        Check.due("no room for one that is hushed", x.noise(0, 0), -5);
        Check.due("the first stays", x.who(0, 3), 20);
    }

    private static void termsTell() {
        Check.sentence("A TERM: what it was. -1.");
        ListenWells x = new ListenWells();
        Check.due("day", x.terms(0, 17), 0);
        Check.due("day", x.terms(0, 18), 17);
        Check.due("thunder", x.terms(1, 7), 2);
        Check.due("thunder", x.terms(1, 8), 7);
        Check.due("mood", x.terms(2, 3), 0);
        Check.due("mood", x.terms(2, 4), 3);
        Check.due("too much of it", x.terms(2, 10), -1);
        Check.due("as it was", x.terms(2, 0), 4);
        x.sink(0);
        x.dig(0, 1);
        Check.due("what days went by", x.terms(0, 0), 21);
    }

    private static void ofWhat() {
        Check.sentence("Of a SHAFT the CELL (what 0), BUCKETS (1), SPOILT (2: 1, 0), FOUND (3: 1, 0), what it HAS of its VEIN");
        ListenWells all = new ListenWells();
        all.put(2, 0, 2);
        all.put(3, 0, 3);
        all.put(3, 2, 12);
        all.sink(1);
        all.sink(2);
        all.sink(3);
        all.haul(2);
        int[][] due = {{1, 0, 0, 0, 0}, {2, 0, 1, 0, 0}, {3, 5, 0, 1, 7}};
        for (int shaft = 0; shaft < 3; shaft++) {
            for (int what = 0; what < 5; what++) {
                Check.due("of(" + shaft + ", " + what + ")", all.of(shaft, what), due[shaft][what]);
            }
        }
        Check.sentence("what it HAS of its VEIN (4; 0: not FOUND). NONE.");
        ListenWells x = new ListenWells();
        x.put(1, 0, 3);
        x.put(1, 2, 9);
        x.sink(0);
        x.sink(1);
        Check.due("not found, beside water", x.of(0, 4), 0);
        Check.due("found", x.of(1, 4), 9);
        int[] bad = {-1, 5, LEAST, MOST};
        for (int what : bad) {
            Check.due("no such what", x.of(0, what), -1);
        }
        for (int what = 0; what < 5; what++) {
            Check.due("no such shaft", x.of(2, what), -1);
        }
    }

    private static void whoWhat() {
        Check.sentence("Of a LISTENER the COLUMN (what 0), EAR (1); of a NOISE the COLUMN (2), LOUD (3), HUSHED (4: 1, 0). NONE.");
        ListenWells x = new ListenWells();
        x.listener(6, 13);
        x.listener(5, 12);
        x.noise(1, 2);
        int[] due = {6, 13, 1, 2, 0};
        for (int what = 0; what < 5; what++) {
            Check.due("what " + what, x.who(0, what), due[what]);
            Check.due("more listeners than noises, what " + what, x.who(1, what), what == 0 ? 5 : what == 1 ? 12 : -1);
        }
        int[] bad = {-1, 5, LEAST, MOST};
        for (int what : bad) {
            Check.due("no such what", x.who(0, what), -1);
        }
        ListenWells loud = new ListenWells();
        loud.noise(4, 4);
        Check.due("more noises than listeners", loud.who(0, 0), -1);
        Check.due("more noises than listeners", loud.who(0, 1), -1);
        Check.due("the noise", loud.who(0, 3), 4);
    }
}
