/** Terms III, promises 28 to 30, 38, sentence by sentence: WAYS DOWN, GANGS, QUIET, IN TIME. */
public final class PaperEdgesTest {
    private static final long ALL = 1000000000000L;

    public static void main(String[] args) {
        mayBeDugOn();
        atItsEndAlone();
        fewestDays();
        lowestCell();
        lowestOfDifferentLengths();
        noWrap();
        longestWay();
        ownCell();
        dugAndSand();
        dayAsNow();
        downWhat();
        gangsOfOwn();
        gangsWhat();
        gangsFirst();
        gangsMayCross();
        gangsOfSpoilt();
        quietFewest();
        quietLowest();
        quietHushed();
        quietWho();
        quietByLaw();
        timeDays();
        timeThunder();
        timeCut();
        Check.end("PaperEdgesTest");
    }

    private static void way(ListenWells x, int shaft, int cell, int days, int... cells) {
        String what = "way of " + shaft + " to " + cell;
        Check.due(what, x.down(shaft, cell, 0), days);
        Check.due(what, x.down(shaft, cell, 1), cells.length);
        for (int i = 0; i < cells.length; i++) {
            Check.due(what + ", " + i, x.down(shaft, cell, 2 + i), cells[i]);
        }
        Check.due(what + ", behind it", x.down(shaft, cell, 2 + cells.length), -1);
    }

    private static void noWay(ListenWells x, int shaft, int cell) {
        for (int what = 0; what < 4; what++) {
            Check.due("no way of " + shaft + " to " + cell, x.down(shaft, cell, what), -1);
        }
        Check.due("no time of " + shaft + " to " + cell, x.time(shaft, cell, 200), -1);
    }

    private static void mayBeDugOn() {
        Check.sentence("A WAY DOWN: from a SHAFT (one that may be dug on) by WAYS to a CELL (salt, water at its end alone)");
        ListenWells x = new ListenWells();
        x.put(1, 0, 2);
        x.put(5, 0, 3);
        x.sink(1);
        x.sink(5);
        x.sink(3);
        noWay(x, 0, 0);
        noWay(x, 0, 9);
        noWay(x, 0, 1);
        noWay(x, 1, 6);
        noWay(x, 1, 13);
        noWay(x, 1, 5);
        way(x, 2, 11, 3, 11);
        noWay(x, 3, 11);
        noWay(x, -1, 11);
        x.put(11, 0, 2);
        x.dig(2, 1);
        noWay(x, 2, 19);
        x.undo();
        way(x, 2, 2, 3, 2);
    }

    private static void atItsEndAlone() {
        Check.sentence("(salt, water at its end alone)");
        for (int kind = 2; kind < 4; kind++) {
            ListenWells x = new ListenWells();
            x.sink(0);
            x.put(8, 0, kind);
            way(x, 0, 8, 3, 8);
            way(x, 0, 16, 12, 1, 9, 17, 16);
            for (int column = 1; column < 8; column++) {
                x.put(8 + column, 0, kind);
            }
            for (int column = 0; column < 8; column++) {
                noWay(x, 0, 16 + column);
            }
            way(x, 0, 15, 24, 1, 2, 3, 4, 5, 6, 7, 15);
        }
    }

    private static void fewestDays() {
        Check.sentence("the fewest days; at each step, of the quickest rows, the lowest CELL.");
        ListenWells x = new ListenWells();
        x.sink(3);
        x.put(11, 1, 9);
        way(x, 0, 19, 12, 2, 10, 18, 19);
        x.put(11, 1, 7);
        x.put(18, 1, 4);
        x.put(20, 1, 3);
        way(x, 0, 19, 10, 11, 19);
        x.put(11, 1, 9);
        // left would be 13 now, right 12
        way(x, 0, 19, 12, 4, 12, 20, 19);
    }

    private static void lowestCell() {
        Check.sentence("at each step, of the quickest rows, the lowest CELL");
        ListenWells x = new ListenWells();
        x.sink(3);
        way(x, 0, 10, 6, 2, 10);
        way(x, 0, 12, 6, 4, 12);
        way(x, 0, 18, 9, 2, 10, 18);
        way(x, 0, 20, 9, 4, 12, 20);
        x.put(11, 0, 1);
        // left and right are alike: left
        way(x, 0, 19, 12, 2, 10, 18, 19);
        x.put(2, 0, 1);
        way(x, 0, 19, 12, 4, 12, 20, 19);
        x.put(2, 0, 0);
        x.put(18, 1, 4);
        way(x, 0, 19, 12, 4, 12, 20, 19);
        // the choice comes at a later step
        ListenWells later = new ListenWells();
        later.sink(3);
        later.put(2, 0, 1);
        later.put(4, 0, 1);
        way(later, 0, 18, 9, 11, 10, 18);
        way(later, 0, 20, 9, 11, 12, 20);
        way(later, 0, 26, 12, 11, 10, 18, 26);
        later.put(10, 1, 4);
        way(later, 0, 26, 12, 11, 19, 18, 26);
        // over the edge of the next depth the numbers are higher
        way(later, 0, 35, 12, 11, 19, 27, 35);
    }

    private static void lowestOfDifferentLengths() {
        Check.sentence("of the quickest rows, the lowest CELL");
        ListenWells x = new ListenWells();
        x.sink(3);
        x.put(11, 1, 6);
        x.put(2, 1, 1);
        x.put(10, 1, 4);
        x.put(18, 1, 1);
        // 11, 19 are 9 days; 2, 10, 18, 19 are 1 + 4 + 1 + 3
        way(x, 0, 19, 9, 2, 10, 18, 19);
        x.put(10, 1, 5);
        way(x, 0, 19, 9, 11, 19);
        ListenWells right = new ListenWells();
        right.sink(3);
        right.put(11, 1, 6);
        right.put(4, 1, 1);
        right.put(12, 1, 4);
        right.put(20, 1, 1);
        way(right, 0, 19, 9, 4, 12, 20, 19);
    }

    private static void noWrap() {
        Check.sentence("CELLS are BESIDE each other left and right, up and down.");
        ListenWells x = new ListenWells();
        x.sink(7);
        // cell 8 is the next number to 7, but far away
        way(x, 0, 8, 24, 6, 5, 4, 3, 2, 1, 0, 8);
        ListenWells y = new ListenWells();
        y.sink(0);
        y.dig(0, 1);
        noWay(y, 0, 7);
        noWay(y, 0, 0);
        noWay(y, 0, 1);
        way(y, 0, 15, 21, 9, 10, 11, 12, 13, 14, 15);
        // the cell behind the edge is not on the way, even where the days would be the same
        ListenWells edge = new ListenWells();
        for (int cell = 1; cell < 7; cell++) {
            edge.put(cell, 1, 9);
        }
        for (int cell = 8; cell < 16; cell++) {
            edge.put(cell, 1, 1);
        }
        edge.put(7, 1, 6);
        edge.sink(0);
        way(edge, 0, 15, 8, 8, 9, 10, 11, 12, 13, 14, 15);
        edge.put(8, 1, 6);
        edge.sink(7);
        way(edge, 1, 9, 7, 15, 14, 13, 12, 11, 10, 9);
    }

    private static void longestWay() {
        Check.sentence("days (what 0), how many CELLS are dug (1), the i-th (2 + i). NONE.");
        ListenWells x = new ListenWells();
        for (int column = 0; column < 7; column++) {
            x.put(8 + column, 0, 1);
            x.put(24 + column + 1, 0, 1);
        }
        Check.law(x, "digs 99");
        x.force(0);
        x.sink(0);
        way(x, 0, 39, 25 * 99, 1, 2, 3, 4, 5, 6, 7, 15, 23, 22, 21, 20, 19, 18, 17, 16, 24, 32, 33, 34, 35, 36, 37, 38, 39);
        Check.due("not in 200 days", x.time(0, 39, 200), 0);
        Check.due("in two cells' days", x.time(0, 2, 198), pow(8, 198));
    }

    private static void ownCell() {
        Check.sentence("A WAY DOWN: days (what 0), how many CELLS are dug (1), the i-th (2 + i). NONE.");
        ListenWells x = new ListenWells();
        x.sink(4);
        way(x, 0, 4, 0);
        Check.due("at once", x.time(0, 4, 0), ALL);
        x.dig(0, 1);
        way(x, 0, 12, 0);
        noWay(x, 0, 4);
    }

    private static void dugAndSand() {
        Check.sentence("the CELL there is there, not DUG, it PASSES it");
        ListenWells x = new ListenWells();
        x.sink(3);
        x.sink(4);
        noWay(x, 0, 4);
        // no way goes up again
        noWay(x, 0, 5);
        way(x, 0, 13, 9, 11, 12, 13);
        x.dig(1, 1);
        noWay(x, 0, 12);
        way(x, 0, 20, 9, 11, 19, 20);
        x.put(19, 0, 1);
        noWay(x, 0, 19);
        noWay(x, 0, 20);
        way(x, 0, 27, 15, 2, 10, 18, 26, 27);
    }

    private static void dayAsNow() {
        Check.sentence("(On paper; DAY in laws as now:)");
        ListenWells x = new ListenWells();
        Check.law(x, "digs day+1;passes if day=4");
        x.force(0);
        x.put(8, 0, 1);
        x.sink(0);
        x.terms(0, 4);
        way(x, 0, 16, 10, 8, 16);
        Check.due("gangs", x.gangs(1L << 16, 0), 10);
        Check.due("time", x.time(0, 16, 9), 0);
        x.terms(0, 5);
        noWay(x, 0, 8);
        x.terms(0, 9999);
        Check.due("nothing is dug", x.count(3), 1);
        Check.due("no day goes by", x.count(15), 9999);
        Check.due("99 days each", x.down(0, 1, 0), 99);
    }

    private static void downWhat() {
        Check.sentence("how many CELLS are dug (1), the i-th (2 + i). NONE.");
        ListenWells x = new ListenWells();
        x.sink(0);
        int[] bad = {-1, -2, 6, Integer.MIN_VALUE, Integer.MAX_VALUE};
        for (int what : bad) {
            Check.due("no such what", x.down(0, 32, what), -1);
        }
        Check.due("the last", x.down(0, 32, 5), 32);
    }

    private static void gangsOfOwn() {
        Check.sentence("GANGS: told CELLS, each for one SHAFT of its own");
        ListenWells x = new ListenWells();
        Check.due("none told, none there", x.gangs(0, 0), 0);
        Check.due("one told, none there", x.gangs(1L << 9, 0), -1);
        x.sink(1);
        Check.due("none told", x.gangs(0, 0), 0);
        Check.due("one", x.gangs(1L << 9, 0), 3);
        Check.due("two for one shaft", x.gangs(1L << 9 | 1L << 17, 0), -1);
        x.sink(5);
        Check.due("two for two", x.gangs(1L << 9 | 1L << 17, 0), 3 + 6 * 3);
        Check.due("three for two", x.gangs(1L << 9 | 1L << 17 | 1L << 25, 0), -1);
        x.put(17, 0, 1);
        Check.due("one that can't be", x.gangs(1L << 9 | 1L << 17, 0), -1);
        Check.sentence("GANGS for told CELLS (bits, 6 at most)");
        ListenWells six = new ListenWells();
        for (int k = 0; k < 6; k++) {
            six.sink(k);
        }
        Check.due("six", six.gangs(0x3fL << 8, 0), 18);
        Check.due("seven", six.gangs(0x7fL << 8, 0), -1);
        Check.due("forty", six.gangs((1L << 40) - 1, 0), -1);
        Check.due("below 0", six.gangs(-1L, 0), -1);
        Check.due("below 0", six.gangs(Long.MIN_VALUE, 0), -1);
        Check.due("the most", six.gangs(Long.MAX_VALUE, 0), -1);
    }

    private static void gangsWhat() {
        Check.sentence("days together (what 0), the CELL of SHAFT s (1 + s; 100: none). NONE (it can't be).");
        ListenWells x = new ListenWells();
        for (int k = 0; k < 6; k++) {
            x.sink(k);
        }
        for (int s = 0; s < 6; s++) {
            Check.due("shaft " + s, x.gangs(1L << 10 | 1L << 37, 1 + s), s == 2 ? 10 : s == 5 ? 37 : 100);
            Check.due("none told, shaft " + s, x.gangs(0, 1 + s), 100);
        }
        int[] bad = {-1, 7, Integer.MIN_VALUE, Integer.MAX_VALUE};
        for (int what : bad) {
            Check.due("no such what", x.gangs(1L << 10, what), -1);
        }
        for (int what = 0; what < 7; what++) {
            Check.due("no such cell", x.gangs(1L << 10 | 1L << 40, what), -1);
        }
        x.put(10, 0, 1);
        for (int what = 0; what < 7; what++) {
            Check.due("it can't be", x.gangs(1L << 10, what), -1);
        }
    }

    private static void gang(ListenWells x, long cells, int days, int... row) {
        Check.due("days", x.gangs(cells, 0), days);
        for (int s = 0; s < row.length; s++) {
            Check.due("shaft " + s, x.gangs(cells, 1 + s), row[s]);
        }
    }

    private static void gangsFirst() {
        Check.sentence("the first as a row of CELLS by SHAFTS (none last)");
        ListenWells x = new ListenWells();
        x.sink(2);
        x.sink(4);
        gang(x, 1L << 3, 3, 3, 100);
        gang(x, 1L << 11 | 1L << 19, 15, 11, 19);
        gang(x, 1L << 10 | 1L << 12, 6, 10, 12);
        x.sink(6);
        // 11 and 13 lie between: shafts 0 and 1, or 0 and 2, or 1 and 2 all need 12 days
        gang(x, 1L << 11 | 1L << 13, 12, 11, 13, 100);
        gang(x, 1L << 13, 6, 100, 13, 100);
        // the order of the shafts' numbers counts, not of their columns
        ListenWells turned = new ListenWells();
        turned.sink(4);
        turned.sink(2);
        gang(turned, 1L << 11 | 1L << 19, 15, 11, 19);
        gang(turned, 1L << 3, 3, 3, 100);
    }

    private static void gangsMayCross() {
        Check.sentence("the fewest days together (WAYS may cross)");
        ListenWells x = new ListenWells();
        x.sink(0);
        x.sink(1);
        // both ways need cell 9
        x.put(8, 0, 1);
        x.put(2, 0, 1);
        x.put(10, 0, 1);
        noWay(x, 0, 17);
        gang(x, 1L << 17, 6, 100, 17);
        ListenWells cross = new ListenWells();
        cross.sink(3);
        cross.sink(5);
        cross.put(2, 0, 1);
        cross.put(6, 0, 1);
        for (int column = 0; column < 8; column++) {
            if (column != 4) {
                cross.put(16 + column, 0, 1);
            }
        }
        // both must go through cell 20
        gang(cross, 1L << 27 | 1L << 29, 30, 27, 29);
        // not the nearest for each: 6 + 6 is more than 3 + 3
        ListenWells together = new ListenWells();
        together.sink(2);
        together.sink(3);
        gang(together, 1L << 10 | 1L << 11, 6, 10, 11);
        together.put(10, 1, 9);
        gang(together, 1L << 10 | 1L << 11, 12, 10, 11);
    }

    private static void gangsOfSpoilt() {
        Check.sentence("A WAY DOWN: from a SHAFT (one that may be dug on)");
        ListenWells x = new ListenWells();
        x.put(1, 0, 2);
        x.put(2, 0, 3);
        x.sink(1);
        x.sink(2);
        Check.due("none of use", x.gangs(1L << 9, 0), -1);
        Check.due("not even its own", x.gangs(1L << 1, 0), -1);
        Check.due("none told", x.gangs(0, 0), 0);
        x.sink(4);
        gang(x, 1L << 9, 12, 100, 100, 9);
        gang(x, 1L << 4, 0, 100, 100, 4);
        Check.due("two for one of use", x.gangs(1L << 9 | 1L << 12, 0), -1);
    }

    private static void quietFewest() {
        Check.sentence("QUIET: the fewest NOISES that are not HUSHED yet which must be, so that told LISTENERS all HEAR a CELL of water");
        ListenWells x = new ListenWells();
        x.put(0, 0, 3);
        x.listener(0, 0);
        int[] louds = {6, 6, 7};
        for (int loud : louds) {
            x.noise(0, loud);
        }
        // 18 loud against 19
        Check.due("one", x.quiet(1, 0, 0), 1);
        x.noise(0, 20);
        Check.due("the loudest and one more", x.quiet(1, 0, 0), 2);
        Check.due("which", x.quiet(1, 0, 1), 0b1001);
        Check.due("nothing is hushed by it", x.din(0), 39);
        Check.due("none told", x.quiet(0, 0, 0), 0);
        Check.due("none told", x.quiet(0, 0, 1), 0);
        x.hush(3);
        x.hush(2);
        Check.due("12: none must be", x.quiet(1, 0, 0), 0);
        ListenWells even = new ListenWells();
        even.put(0, 0, 3);
        even.listener(0, 2);
        even.noise(0, 20);
        Check.due("20 against 20 is not heard", even.quiet(1, 0, 0), 1);
        even.listener(0, 3);
        Check.due("21 against 20 is", even.quiet(2, 0, 0), 0);
    }

    private static void quietLowest() {
        Check.sentence("the lowest as bits");
        ListenWells x = new ListenWells();
        x.put(0, 0, 3);
        x.listener(0, 0);
        for (int k = 0; k < 6; k++) {
            x.noise(0, 7);
        }
        // 42: four must be hushed for 14
        Check.due("four", x.quiet(1, 0, 0), 4);
        Check.due("the lowest four", x.quiet(1, 0, 1), 0b1111);
        x.hush(1);
        Check.due("three", x.quiet(1, 0, 0), 3);
        Check.due("the lowest three of those left", x.quiet(1, 0, 1), 0b1101);
        ListenWells two = new ListenWells();
        two.put(0, 0, 3);
        two.listener(0, 0);
        two.noise(0, 6);
        two.noise(0, 6);
        two.noise(0, 12);
        // 24 against 18: the first two, or the third alone
        Check.due("one, though a lower number were two", two.quiet(1, 0, 0), 1);
        Check.due("one, though a lower number were two", two.quiet(1, 0, 1), 0b100);
        ListenWells high = new ListenWells();
        high.put(0, 0, 3);
        high.listener(0, 0);
        high.noise(0, 1);
        high.noise(0, 1);
        high.noise(0, 20);
        Check.due("the loud one", high.quiet(1, 0, 1), 0b100);
        high.noise(7, 20);
        high.listener(7, 12);
        // in column 7 it is 4 and 12 against 13 and 20: both loud ones
        Check.due("for both listeners", high.quiet(3, 0, 1), 0b1100);
    }

    private static void quietHushed() {
        Check.sentence("NOISES that are not HUSHED yet which must be");
        ListenWells x = new ListenWells();
        x.put(0, 0, 3);
        x.listener(0, 0);
        x.noise(0, 20);
        x.noise(0, 20);
        x.hush(0);
        Check.due("the other one", x.quiet(1, 0, 1), 0b10);
        x.hush(1);
        Check.due("none", x.quiet(1, 0, 1), 0);
        x.undo();
        x.undo();
        Check.due("both", x.quiet(1, 0, 1), 0b11);
        Check.sentence("NONE (not by all; no water).");
        x.put(39, 0, 3);
        Check.due("-4 is never above 0", x.quiet(1, 39, 0), -1);
        Check.due("-4 is never above 0", x.quiet(1, 39, 1), -1);
        x.listener(7, 0);
        Check.due("by that one alone", x.quiet(2, 39, 0), 2);
        Check.due("not by all", x.quiet(3, 39, 0), -1);
        for (int kind = 0; kind < 3; kind++) {
            x.put(1, 0, kind);
            Check.due("no water", x.quiet(1, 1, 0), -1);
            Check.due("no water, none told", x.quiet(0, 1, 0), -1);
        }
    }

    private static void quietWho() {
        Check.sentence("QUIET for told LISTENERS (bits) and a CELL: how many (what 0), which, as bits (1).");
        ListenWells x = new ListenWells();
        x.put(0, 0, 3);
        x.noise(0, 19);
        for (int k = 0; k < 5; k++) {
            Check.due("no such listener yet", x.quiet(1 << k, 0, 0), -1);
            x.listener(0, k);
            Check.due("listener " + k, x.quiet(1 << k, 0, 0), k > 1 ? 0 : 1);
        }
        Check.due("all five", x.quiet(31, 0, 0), 1);
        Check.due("those who hear", x.quiet(0b11100, 0, 0), 0);
        int[] bad = {32, 33, 64, -1, Integer.MIN_VALUE, Integer.MAX_VALUE};
        for (int listeners : bad) {
            Check.due("no such listener", x.quiet(listeners, 0, 0), -1);
        }
        int[] badWhat = {-1, 2, Integer.MIN_VALUE, Integer.MAX_VALUE};
        for (int what : badWhat) {
            Check.due("no such what", x.quiet(1, 0, what), -1);
        }
    }

    private static void quietByLaw() {
        Check.sentence("so that told LISTENERS all HEAR a CELL of water");
        ListenWells x = new ListenWells();
        x.put(0, 0, 3);
        x.listener(0, 0);
        x.noise(0, 20);
        Check.due("without a law", x.quiet(1, 0, 0), 1);
        Check.law(x, "says 99");
        x.force(0);
        Check.due("by one", x.quiet(1, 0, 0), 0);
        Check.due("for none, ahead of the next", x.quiet(0, 0, 0), 0);
        x.force(-1);
        Check.due("without a law again", x.quiet(1, 0, 0), 1);
        // nothing is asked in between by which the law could have been taken notice of
        ListenWells first = new ListenWells();
        first.put(0, 0, 3);
        first.listener(0, 0);
        first.noise(0, 20);
        Check.law(first, "says 99");
        first.force(0);
        Check.due("the first question of all", first.quiet(1, 0, 0), 0);
    }

    /** The chance that no day of n is lost, when tens of ten are not: cut day by day. */
    private static long pow(int tens, int n) {
        long chance = ALL;
        for (int k = 0; k < n; k++) {
            chance = chance * tens / 10;
        }
        return chance;
    }

    private static void timeDays() {
        Check.sentence("IN TIME: a SHAFT, a CELL, n days 0 .. 200. NONE (no WAY DOWN).");
        ListenWells x = new ListenWells();
        x.sink(0);
        int[] bad = {-1, 201, Integer.MIN_VALUE, Integer.MAX_VALUE};
        for (int n : bad) {
            Check.due("no such n", x.time(0, 8, n), -1);
            Check.due("no such n, its own cell", x.time(0, 0, n), -1);
        }
        Check.due("no days, its own cell", x.time(0, 0, 0), ALL);
        Check.due("no days", x.time(0, 8, 0), 0);
        Check.due("200 days, its own cell", x.time(0, 0, 200), ALL);
        Check.due("a day too few", x.time(0, 8, 2), 0);
        Check.due("just", x.time(0, 8, 3), 512000000000L);
        x.put(8, 0, 1);
        Check.due("no way", x.time(0, 8, 200), -1);
        Check.due("no way, no days", x.time(0, 8, 0), -1);
    }

    private static void timeThunder() {
        Check.sentence("IN TIME: the chance, of 1,000,000,000,000 parts, that the quickest WAY DOWN is dug in n days,"
            + " when in THUNDER of ten a day is lost");
        ListenWells x = new ListenWells();
        x.put(8, 1, 1);
        x.put(16, 1, 1);
        x.sink(0);
        for (int thunder = 0; thunder <= 10; thunder++) {
            x.terms(1, thunder);
            long lost = thunder;
            Check.due("one day", x.time(0, 8, 1), ALL / 10 * (10 - lost));
            Check.due("two days for one", x.time(0, 8, 2), ALL - ALL / 100 * lost * lost);
            Check.due("two days for two", x.time(0, 16, 2), ALL / 100 * (10 - lost) * (10 - lost));
            Check.due("one day for two", x.time(0, 16, 1), 0);
            long three = ALL / 1000 * (10 - lost) * (10 - lost) * (10 + 2 * lost);
            Check.due("three days for two", x.time(0, 16, 3), three);
        }
        x.terms(1, 10);
        Check.due("never", x.time(0, 8, 200), 0);
        x.terms(1, 0);
        Check.due("surely", x.time(0, 16, 200), ALL);
        Check.due("surely, in 33 days", x.time(0, 39, 29), ALL);
        Check.due("not in a day less", x.time(0, 39, 28), 0);
    }

    private static void timeCut() {
        Check.sentence("each part is cut");
        ListenWells x = new ListenWells();
        Check.law(x, "digs 40");
        x.force(0);
        x.sink(0);
        x.terms(1, 3);
        Check.due("40 days of seven tenths, each cut", x.time(0, 8, 40), pow(7, 40));
        x.terms(1, 9);
        Check.due("40 days of one tenth: nothing is left", x.time(0, 8, 40), 0);
        ListenWells one = new ListenWells();
        one.put(8, 1, 1);
        one.sink(0);
        one.terms(1, 9);
        // what is dug comes day by day: a tenth of what was not, cut
        long left = ALL;
        long dug = 0;
        for (int n = 1; n <= 200; n++) {
            dug += left / 10;
            left = left * 9 / 10;
            Check.due("within " + n, one.time(0, 8, n), dug);
        }
    }
}
