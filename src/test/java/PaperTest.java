/** Promises 28 to 30, 38: WAYS DOWN, GANGS, QUIET, IN TIME. */
public final class PaperTest {
    public static void main(String[] args) {
        down();
        downAtTheEdges();
        downByLaw();
        gangs();
        gangTies();
        quiet();
        time();
        Check.end("PaperTest");
    }

    private static void way(ListenWells x, int shaft, int cell, int days, int... cells) {
        String what = "way of " + shaft + " to " + cell;
        Check.due(what, x.down(shaft, cell, 0), days);
        Check.due(what, x.down(shaft, cell, 1), cells.length);
        for (int i = 0; i < cells.length; i++) {
            Check.due(what + ", " + i, x.down(shaft, cell, 2 + i), cells[i]);
        }
        Check.due(what + ", behind it", x.down(shaft, cell, 2 + cells.length), -1);
    }

    private static void noWay(ListenWells x, int shaft, int cell) {
        for (int what = -1; what < 4; what++) {
            Check.due("no way of " + shaft + " to " + cell, x.down(shaft, cell, what), -1);
        }
        Check.due("no time", x.time(shaft, cell, 200), -1);
    }

    private static void down() {
        ListenWells x = new ListenWells();
        noWay(x, 0, 0);
        x.sink(3);
        noWay(x, -1, 3);
        noWay(x, 1, 3);
        noWay(x, 0, -1);
        noWay(x, 0, 40);
        way(x, 0, 3, 0);
        way(x, 0, 2, 3, 2);
        way(x, 0, 35, 12, 11, 19, 27, 35);
        way(x, 0, 9, 9, 2, 1, 9);
        Check.due("no such what", x.down(0, 35, -1), -1);
        Check.due("no such what", x.down(0, 35, Integer.MAX_VALUE), -1);
        Check.due("no such what", x.down(0, 35, Integer.MIN_VALUE), -1);
        // water and salt at the end alone
        x.put(11, 0, 3);
        x.put(19, 0, 2);
        way(x, 0, 11, 3, 11);
        way(x, 0, 27, 15, 2, 10, 18, 26, 27);
        way(x, 0, 19, 12, 2, 10, 18, 19);
        // two quickest rows of different lengths: the lowest cell at each step
        x.put(10, 1, 9);
        way(x, 0, 18, 15, 2, 1, 9, 17, 18);
        x.put(10, 1, 8);
        way(x, 0, 18, 14, 2, 10, 18);
        x.put(10, 0, 1);
        way(x, 0, 18, 15, 2, 1, 9, 17, 18);
        noWay(x, 0, 10);
        x.sink(2);
        noWay(x, 0, 2);
        noWay(x, 0, 18);
        way(x, 1, 18, 12, 1, 9, 17, 18);
        // nothing is dug on paper, and the drought's last day does not matter there
        x.terms(0, 9999);
        way(x, 1, 18, 12, 1, 9, 17, 18);
        Check.due("dug", x.count(3), 2);
        // one that can be dug leftwards to cell 0
        x.put(1, 1, 2);
        way(x, 1, 0, 5, 1, 0);
        // one that is spoilt, one that has found
        x.terms(0, 0);
        x.put(6, 0, 2);
        x.put(7, 0, 3);
        x.sink(6);
        x.sink(7);
        noWay(x, 2, 6);
        noWay(x, 2, 5);
        noWay(x, 3, 7);
        noWay(x, 3, 15);
    }

    /** The CELL behind the edge has another depth: it is not beside, even where the days would be the same. */
    private static void downAtTheEdges() {
        ListenWells x = new ListenWells();
        for (int cell = 1; cell < 7; cell++) {
            x.put(cell, 1, 9);
        }
        for (int cell = 8; cell < 16; cell++) {
            x.put(cell, 1, 1);
        }
        x.put(7, 1, 6);
        x.sink(0);
        way(x, 0, 15, 8, 8, 9, 10, 11, 12, 13, 14, 15);
        x.put(8, 1, 6);
        x.sink(7);
        way(x, 1, 9, 7, 15, 14, 13, 12, 11, 10, 9);
    }

    private static void downByLaw() {
        ListenWells x = new ListenWells();
        x.sink(0);
        x.sink(7);
        Check.law(x, "digs 10 * depth + shaft + 1 + day;passes if shaft = 1");
        x.force(0);
        x.terms(0, 4);
        x.put(8, 0, 1);
        // the day stays as it is now: 5, 15, 25 for shaft 0
        way(x, 0, 16, 5 + 15 + 25 + 25, 1, 9, 17, 16);
        way(x, 1, 8, 6 * 6 + 16 + 16, 6, 5, 4, 3, 2, 1, 9, 8);
    }

    private static void gangs() {
        ListenWells x = new ListenWells();
        Check.due("no cells, no shafts", x.gangs(0, 0), 0);
        Check.due("no such shaft", x.gangs(0, 1), -1);
        Check.due("a cell, no shaft", x.gangs(1, 0), -1);
        x.sink(0);
        x.sink(4);
        Check.due("no cells", x.gangs(0, 0), 0);
        Check.due("none", x.gangs(0, 1), 100);
        Check.due("none", x.gangs(0, 2), 100);
        Check.due("no such shaft", x.gangs(0, 3), -1);
        Check.due("no such what", x.gangs(0, -1), -1);
        Check.due("no such what", x.gangs(0, Integer.MAX_VALUE), -1);
        Check.due("no such cell", x.gangs(1L << 40, 0), -1);
        Check.due("no such cell", x.gangs(Long.MIN_VALUE, 0), -1);
        Check.due("no such cell", x.gangs(-1L, 0), -1);
        Check.due("three cells", x.gangs(0x700, 0), -1);
        Check.due("seven cells", x.gangs(0x7f00, 0), -1);
        // 13 is near shaft 1, 9 near shaft 0
        long cells = 1L << 13 | 1L << 9;
        Check.due("together", x.gangs(cells, 0), 6 + 6);
        Check.due("shaft 0", x.gangs(cells, 1), 9);
        Check.due("shaft 1", x.gangs(cells, 2), 13);
        Check.due("its own cell takes no days", x.gangs(1L << 4, 0), 0);
        Check.due("it is not shaft 0's", x.gangs(1L << 4, 1), 100);
        Check.due("it is shaft 1's", x.gangs(1L << 4, 2), 4);
        x.put(5, 0, 1);
        Check.due("sand", x.gangs(1L << 5, 0), -1);
        x.put(2, 0, 3);
        x.sink(2);
        Check.due("one that has found is of no use", x.gangs(1L << 10 | 1L << 11 | 1L << 12, 0), -1);
        Check.due("the others", x.gangs(1L << 10 | 1L << 12, 3), 100);
    }

    private static void gangTies() {
        ListenWells x = new ListenWells();
        x.sink(2);
        x.sink(4);
        // cells 11 and 19 are as far from both: the first row gives shaft 0 the lower one
        long cells = 1L << 11 | 1L << 19;
        Check.due("together", x.gangs(cells, 0), 6 + 9);
        Check.due("shaft 0", x.gangs(cells, 1), 11);
        Check.due("shaft 1", x.gangs(cells, 2), 19);
        // one cell as far from both: a cell goes ahead of none
        Check.due("together", x.gangs(1L << 11, 0), 6);
        Check.due("shaft 0", x.gangs(1L << 11, 1), 11);
        Check.due("shaft 1", x.gangs(1L << 11, 2), 100);
        // fewest days together, not each for itself: 10 would be shaft 0's nearest
        x.put(4, 1, 9);
        x.sink(0);
        long far = 1L << 8 | 1L << 10;
        Check.due("together", x.gangs(far, 0), 3 + 3);
        Check.due("shaft 0", x.gangs(far, 1), 10);
        Check.due("shaft 1", x.gangs(far, 2), 100);
        Check.due("shaft 2", x.gangs(far, 3), 8);
        x.sink(1);
        x.sink(3);
        x.sink(5);
        // six straight ways: any that cross take longer
        long six = 0x3fL << 32;
        int[] due = {34, 36, 32, 33, 35, 37};
        Check.due("six", x.gangs(six, 0), 6 * 12);
        for (int s = 0; s < 6; s++) {
            Check.due("six, shaft " + s, x.gangs(six, 1 + s), due[s]);
        }
        Check.due("no such shaft", x.gangs(six, 7), -1);
    }

    private static void quiet() {
        ListenWells x = new ListenWells();
        x.put(0, 0, 3);
        x.listener(0, 0);
        x.listener(7, 0);
        // 18 loud in column 0, 4 in column 7
        Check.due("no noise", x.quiet(3, 0, 0), 0);
        Check.due("no noise", x.quiet(3, 0, 1), 0);
        x.noise(0, 10);
        x.noise(1, 10);
        x.noise(7, 3);
        x.noise(0, 5);
        // column 0: 10 + 9 + 0 + 5 = 24; column 7: 3 + 4 + 3 + 0 = 10
        Check.due("listener 0", x.quiet(1, 0, 0), 1);
        Check.due("listener 0", x.quiet(1, 0, 1), 1);
        Check.due("listener 1: 4 > 3 only with two hushed", x.quiet(2, 0, 0), 2);
        Check.due("listener 1", x.quiet(2, 0, 1), 3);
        Check.due("both", x.quiet(3, 0, 1), 3);
        Check.due("hush", x.hush(0), 14);
        Check.due("the hushed one is not told", x.quiet(3, 0, 0), 1);
        Check.due("the lowest", x.quiet(3, 0, 1), 2);
        Check.due("none told", x.quiet(0, 0, 0), 0);
        Check.due("no such listener", x.quiet(4, 0, 0), -1);
        Check.due("no such listener", x.quiet(-1, 0, 0), -1);
        Check.due("no such listener", x.quiet(Integer.MIN_VALUE, 0, 0), -1);
        Check.due("no water", x.quiet(1, 1, 0), -1);
        Check.due("no such cell", x.quiet(1, 40, 0), -1);
        Check.due("no such cell", x.quiet(1, -1, 0), -1);
        Check.due("no such what", x.quiet(1, 0, 2), -1);
        Check.due("no such what", x.quiet(1, 0, -1), -1);
        x.put(39, 0, 3);
        Check.due("never by that one", x.quiet(1, 39, 0), -1);
        // noise 7 in column 7, cell 0 is 4 loud there
        x.listener(7, 3);
        Check.due("as loud as noise: one must be hushed", x.quiet(4, 0, 0), 1);
        x.listener(7, 4);
        Check.due("above noise", x.quiet(8, 0, 0), 0);
        Check.due("nothing is hushed by it", x.din(1), 14);
    }

    private static void time() {
        ListenWells x = new ListenWells();
        x.sink(0);
        Check.due("n", x.time(0, 8, -1), -1);
        Check.due("n", x.time(0, 8, 201), -1);
        Check.due("too few", x.time(0, 8, 2), 0);
        Check.due("just", x.time(0, 8, 3), 512000000000L);
        Check.due("a day more", x.time(0, 8, 4), 819200000000L);
        Check.due("two days more", x.time(0, 8, 5), 942080000000L);
        Check.due("its own", x.time(0, 0, 0), 1000000000000L);
        Check.due("its own", x.time(0, 0, 200), 1000000000000L);
        Check.due("each part is cut", x.time(0, 8, 40), byParts(3, 40, 2));
        x.terms(1, 7);
        Check.due("each part is cut", x.time(0, 39, 150), byParts(33, 150, 7));
        Check.due("each part is cut", x.time(0, 39, 200), byParts(33, 200, 7));
        x.terms(1, 10);
        Check.due("always lost", x.time(0, 8, 200), 0);
        Check.due("its own", x.time(0, 0, 1), 1000000000000L);
        x.terms(1, 0);
        Check.due("never lost", x.time(0, 8, 3), 1000000000000L);
        Check.due("never lost", x.time(0, 8, 2), 0);
        x.put(8, 0, 1);
        Check.due("no way", x.time(0, 8, 3), -1);
        Check.due("no such shaft", x.time(1, 8, 3), -1);
        Check.due("no such cell", x.time(0, 40, 3), -1);
    }

    /** Day by day: of the chance to have dug so much, the part that is lost and the part that goes on, each cut. */
    private static long byParts(int days, int n, int thunder) {
        long[] now = new long[days + 1];
        now[0] = 1000000000000L;
        for (int day = 0; day < n; day++) {
            long[] then = new long[days + 1];
            then[days] = now[days];
            for (int k = 0; k < days; k++) {
                then[k] += now[k] * thunder / 10;
                then[k + 1] += now[k] * (10 - thunder) / 10;
            }
            now = then;
        }
        return now[days];
    }
}
