/** Terms IV, promises 12, 13, 40 to 43, sentence by sentence: SEASONS, ROWS, IMAGES. */
public final class SeasonsEdgesTest {
    public static void main(String[] args) {
        seedAndN();
        draws();
        drawsOfShafts();
        haulsFirst();
        digsThen();
        nextDayThen();
        lastDay();
        onPaper();
        latest();
        drawnWhat();
        bucketsThatCame();
        rowByThrees();
        rowMud();
        rowBehindTheLast();
        rowEndsWithin();
        rowOfDug();
        mudOfTheLatest();
        imageNumbers();
        imagesKeep();
        imagesKeepNot();
        imagesStay();
        imagesOfLaws();
        imagesOfBare();
        Check.end("SeasonsEdgesTest");
    }

    private static void seedAndN() {
        Check.sentence("SEASONS with a SEED, n 1 .. 60, on paper: s is the SEED (0 .. 1,000,000)");
        ListenWells x = new ListenWells();
        x.put(0, 0, 2);
        x.sink(0);
        int[] badSeed = {-1, 1000001, 1000003, Integer.MIN_VALUE, Integer.MAX_VALUE};
        for (int seed : badSeed) {
            Check.due("no seed", x.seasons(seed, 1), -1);
        }
        int[] badN = {0, -1, 61, Integer.MIN_VALUE, Integer.MAX_VALUE};
        for (int n : badN) {
            Check.due("no n", x.seasons(0, n), -1);
        }
        Check.due("none were kept", x.drawn(0, 2), -1);
        Check.due("the least", x.seasons(0, 1), 0);
        Check.due("one day", x.drawn(0, 2), 1);
        Check.due("the most", x.seasons(1000000, 60), 0);
        Check.due("sixty days", x.drawn(0, 2), 60);
        Check.sentence("-3 there are no SHAFTS");
        ListenWells bare = new ListenWells();
        Check.due("no shafts", bare.seasons(0, 1), -3);
        Check.due("none were kept", bare.drawn(0, 2), -1);
    }

    private static long draw(long s) {
        return (s * 1103 + 12345) % 1000003;
    }

    private static void draws() {
        Check.sentence("a DRAW of m: s becomes (s times 1103 and 12345) modulo 1,000,003, it is s modulo m.");
        // one season of one shaft in the middle: the second draw is its way
        int[] to = {2, 11, 4};
        int[] seeds = {0, 1, 2, 3, 4, 5, 6, 906, 907, 12345, 500000, 999999, 1000000};
        for (int seed : seeds) {
            ListenWells x = new ListenWells();
            x.sink(3);
            x.seasons(seed, 1);
            int way = (int) (draw(draw(seed)) % 3);
            Check.due("seed " + seed, x.drawn(0, 0), to[way]);
        }
    }

    private static void drawsOfShafts() {
        Check.sentence("Each time DRAWS of SHAFTS, of 3");
        for (int shafts = 1; shafts <= 6; shafts++) {
            for (int seed = 7; seed < 400; seed += 50) {
                ListenWells x = new ListenWells();
                // in salt none can do anything: in water each hauls what it is
                for (int k = 0; k < shafts; k++) {
                    x.put(k, 0, 3);
                    x.put(k, 2, 99);
                    x.sink(k);
                }
                x.seasons(seed, 9);
                int[] due = new int[6];
                long s = seed;
                for (int n = 0; n < 9; n++) {
                    s = draw(s);
                    due[(int) (s % shafts)] += 5;
                    s = draw(s);
                }
                for (int k = 0; k < shafts; k++) {
                    Check.due(shafts + " shafts, seed " + seed, x.drawn(k, 1), due[k]);
                }
            }
        }
    }

    private static void haulsFirst() {
        Check.sentence("that SHAFT HAULS, if it can, else it DIGS that WAY, if it can, else it is the next DAY, if that can be.");
        ListenWells x = new ListenWells();
        x.put(3, 0, 3);
        x.put(3, 2, 12);
        x.sink(3);
        int[] came = {5, 10, 12, 12, 12};
        for (int n = 1; n <= 5; n++) {
            Check.due("hauls", x.seasons(77, n), came[n - 1]);
            Check.due("stays", x.drawn(0, 0), 3);
            Check.due("a day each, of nothing, too", x.drawn(0, 2), n);
        }
    }

    private static void digsThen() {
        Check.sentence("else it DIGS that WAY, if it can");
        for (int seed = 0; seed < 9; seed++) {
            boolean left = draw(draw(seed)) % 3 == 0;
            ListenWells edge = new ListenWells();
            edge.put(2, 0, 1);
            edge.put(9, 0, 1);
            edge.sink(1);
            edge.seasons(seed, 1);
            Check.due("cell 0 can be dug, seed " + seed, edge.drawn(0, 0), left ? 0 : 1);
            Check.due("in its days alone, seed " + seed, edge.drawn(0, 2), left ? 3 : 1);
        }
        ListenWells x = new ListenWells();
        Check.law(x, "digs 10+depth");
        x.force(0);
        x.sink(3);
        int cell = 3;
        int day = 0;
        boolean[] dug = new boolean[40];
        dug[3] = true;
        long s = 4;
        for (int n = 1; n <= 40; n++) {
            s = draw(draw(s));
            int way = (int) (s % 3);
            int to = way == 0 ? cell % 8 == 0 ? -1 : cell - 1 : way == 1 ? cell + 8 : cell % 8 == 7 ? -1 : cell + 1;
            if (to >= 0 && to < 40 && !dug[to]) {
                dug[to] = true;
                cell = to;
                day += 10 + to / 8;
            } else {
                day++;
            }
            x.seasons(4, n);
            Check.due("cell behind " + n, x.drawn(0, 0), cell);
            Check.due("day behind " + n, x.drawn(0, 2), day);
        }
    }

    private static void nextDayThen() {
        Check.sentence("else it is the next DAY, if that can be");
        ListenWells x = new ListenWells();
        x.put(3, 0, 2);
        x.sink(3);
        for (int n = 1; n <= 60; n += 13) {
            x.seasons(5, n);
            Check.due("spoilt: day", x.drawn(0, 2), n);
            Check.due("spoilt: cell", x.drawn(0, 0), 3);
        }
        ListenWells walled = new ListenWells();
        walled.put(2, 0, 1);
        walled.put(4, 0, 1);
        walled.put(11, 0, 1);
        walled.sink(3);
        walled.seasons(5, 60);
        Check.due("sand all round: day", walled.drawn(0, 2), 60);
        Check.due("sand all round: cell", walled.drawn(0, 0), 3);
    }

    private static void lastDay() {
        Check.sentence("else it is the next DAY, if that can be");
        ListenWells x = new ListenWells();
        x.put(3, 0, 2);
        x.sink(3);
        x.terms(0, 9998);
        x.seasons(5, 1);
        Check.due("the last", x.drawn(0, 2), 9999);
        x.seasons(5, 2);
        Check.due("no later", x.drawn(0, 2), 9999);
        ListenWells wet = new ListenWells();
        wet.put(3, 0, 3);
        wet.put(3, 2, 99);
        wet.sink(3);
        wet.terms(0, 9998);
        Check.due("one haul is left", wet.seasons(5, 60), 5);
        Check.due("day", wet.drawn(0, 2), 9999);
        ListenWells rock = new ListenWells();
        rock.sink(3);
        rock.terms(0, 9997);
        rock.seasons(5, 60);
        Check.due("too late to dig", rock.drawn(0, 0), 3);
        Check.due("day", rock.drawn(0, 2), 9999);
    }

    private static void onPaper() {
        Check.sentence("on paper: s is the SEED");
        ListenWells x = new ListenWells();
        ListenWells same = new ListenWells();
        ListenWells[] both = {x, same};
        for (ListenWells one : both) {
            one.put(9, 0, 3);
            one.put(9, 2, 90);
            one.sink(1);
            one.sink(2);
            one.listener(4, 4);
            one.lie(0, 5);
        }
        x.seasons(11, 60);
        // the other one keeps seasons as well, which change nothing that is looked at but themselves
        same.seasons(11, 60);
        Check.due("something was done in them", x.drawn(0, 2) > 0 ? 1 : 0, 1);
        for (int cell = 0; cell < 40; cell++) {
            boolean sunk = cell == 1 || cell == 2;
            Check.due("dug", x.at(cell, 3), sunk ? 1 : 0);
            Check.due("water", x.at(cell, 2), cell == 9 ? 90 : 0);
        }
        Check.due("cell", x.of(0, 0), 1);
        Check.due("buckets", x.of(0, 1), 0);
        Check.due("day", x.count(15), 0);
        Check.due("can be undone", x.count(7), 1);
        View.of(x).mustBe("twice the same", View.of(same));
        Check.due("undo", x.undo(), 3);
    }

    private static void latest() {
        Check.sentence("SEASONS, kept as the latest: how many BUCKETS came in them. -1; -3 there are no SHAFTS.");
        ListenWells x = new ListenWells();
        x.put(0, 0, 3);
        x.put(0, 2, 50);
        x.image(0);
        x.sink(0);
        Check.due("came", x.seasons(3, 2), 10);
        x.seasons(3, 0);
        x.seasons(-1, 4);
        Check.due("a refused one is not kept", x.drawn(0, 1), 10);
        Check.due("came", x.seasons(3, 4), 20);
        Check.due("the latest", x.drawn(0, 1), 20);
        x.haul(0);
        x.sink(5);
        Check.due("what is done then changes it not", x.drawn(0, 1), 20);
        Check.due("nor does a shaft more", x.drawn(1, 0), -1);
        x.back(0);
        Check.due("no shafts", x.seasons(3, 4), -3);
        Check.due("nor does going back", x.drawn(0, 0), 0);
        Check.due("nor does going back", x.drawn(0, 1), 20);
        Check.due("nor does going back", x.drawn(0, 2), 4);
    }

    private static void drawnWhat() {
        Check.sentence("Behind the latest SEASONS the CELL (what 0), BUCKETS (1) of SHAFT k, the DAY (2; k aside). NONE.");
        ListenWells x = new ListenWells();
        for (int what = -1; what < 4; what++) {
            Check.due("ahead of any", x.drawn(0, what), -1);
        }
        x.put(6, 0, 3);
        x.put(6, 2, 9);
        x.sink(6);
        Check.due("a shaft, no seasons", x.drawn(0, 0), -1);
        x.seasons(9, 2);
        Check.due("cell", x.drawn(0, 0), 6);
        Check.due("buckets", x.drawn(0, 1), 9);
        int[] any = {0, -1, 1, 6, Integer.MIN_VALUE, Integer.MAX_VALUE};
        for (int k : any) {
            Check.due("day, k aside", x.drawn(k, 2), 2);
            Check.due("cell", x.drawn(k, 0), k == 0 ? 6 : -1);
            Check.due("buckets", x.drawn(k, 1), k == 0 ? 9 : -1);
        }
        int[] bad = {-1, 3, Integer.MIN_VALUE, Integer.MAX_VALUE};
        for (int what : bad) {
            Check.due("no such what", x.drawn(0, what), -1);
        }
    }

    private static void bucketsThatCame() {
        Check.sentence("how many BUCKETS came in them");
        ListenWells x = new ListenWells();
        for (int k = 0; k < 3; k++) {
            x.put(k, 0, 3);
            x.put(k, 2, 99);
            x.sink(k);
            x.haul(k);
        }
        Check.due("of all shafts, without those that were there", x.seasons(1, 9), 45);
        Check.due("with those that were there", x.drawn(0, 1) + x.drawn(1, 1) + x.drawn(2, 1), 60);
    }

    private static void rowByThrees() {
        Check.sentence("A ROW: the TAPE's bytes by threes: KIND, HARD, WATER: CELLS from 0 on");
        ListenWells x = new ListenWells();
        x.put(2, 1, 8);
        Check.tape(x, "\1\2\3" + "\3\4\5");
        Check.due("two", x.row(), 2);
        Check.due("no mud", x.mud(), 0);
        int[][] due = {{1, 2, 3}, {3, 4, 5}, {0, 8, 0}};
        for (int cell = 0; cell < 3; cell++) {
            for (int what = 0; what < 3; what++) {
                Check.due("cell " + cell, x.at(cell, what), due[cell][what]);
            }
        }
        Check.sentence("A ROW, the TAPE is empty then: how many CELLS were told. -6 the TAPE is empty.");
        Check.due("empty then", x.count(8), 0);
        Check.due("empty", x.row(), -6);
        Check.tape(x, "\4\1\1");
        Check.due("none that can be is no refusal", x.row(), 0);
        Check.due("status", x.status(), 0);
        Check.due("empty then", x.count(8), 0);
    }

    private static void rowMud() {
        Check.sentence("one that can't be, one behind CELL 39, one that is DUG, one within which the TAPE ends is MUD, and leaves its CELL as it was.");
        int[][] cells = {{0, 1, 0}, {3, 9, 99}, {4, 5, 5}, {255, 5, 5}, {1, 0, 5}, {1, 10, 5}, {1, 255, 5}, {1, 5, 100}, {1, 5, 255}};
        for (int k = 0; k < cells.length; k++) {
            ListenWells x = new ListenWells();
            x.put(0, 0, 2);
            x.put(0, 1, 6);
            x.put(0, 2, 7);
            StringBuilder text = new StringBuilder();
            for (int b : cells[k]) {
                text.append((char) b);
            }
            Check.tape(x, text.toString());
            boolean can = k < 2;
            Check.due("told " + k, x.row(), can ? 1 : 0);
            Check.due("mud " + k, x.mud(), can ? 0 : 1);
            int[] was = {2, 6, 7};
            for (int what = 0; what < 3; what++) {
                Check.due("cell " + k + ", " + what, x.at(0, what), can ? cells[k][what] : was[what]);
            }
        }
        ListenWells among = new ListenWells();
        Check.tape(among, "\1\1\1" + "\4\1\1" + "\1\1\2");
        Check.due("mud among others", among.row(), 2);
        Check.due("its cell is left out", among.at(1, 0), 0);
        Check.due("the next is the next cell's", among.at(2, 2), 2);
    }

    private static void rowBehindTheLast() {
        Check.sentence("one behind CELL 39");
        int[] groups = {39, 40, 41, 133};
        for (int n : groups) {
            ListenWells x = new ListenWells();
            Check.tape(x, "\1\2\3".repeat(n));
            Check.due("told", x.row(), Math.min(40, n));
            Check.due("mud", x.mud(), Math.max(0, n - 40));
            Check.due("the last cell", x.at(39, 1), n < 40 ? 3 : 2);
            Check.due("the first cell", x.at(0, 1), 2);
        }
        ListenWells full = new ListenWells();
        Check.tape(full, "\1\2\3".repeat(133) + "\1");
        Check.due("told", full.row(), 40);
        Check.due("93 whole ones and a part of one", full.mud(), 94);
    }

    private static void rowEndsWithin() {
        Check.sentence("one within which the TAPE ends is MUD");
        String[] texts = {"\1", "\1\1", "\1\1\1", "\1\1\1\1", "\1\1\1\1\1", "\1\1\1\1\1\1"};
        int[] told = {0, 0, 1, 1, 1, 2};
        int[] mud = {1, 1, 0, 1, 1, 0};
        for (int k = 0; k < texts.length; k++) {
            ListenWells x = new ListenWells();
            // what an earlier text left behind the end is no part of it
            Check.tape(x, "\1\1\1".repeat(6));
            Check.tape(x, texts[k]);
            Check.due("told", x.row(), told[k]);
            Check.due("mud", x.mud(), mud[k]);
            Check.due("sand", x.at(0, 0) + x.at(1, 0), told[k]);
        }
    }

    private static void rowOfDug() {
        Check.sentence("one that is DUG");
        ListenWells x = new ListenWells();
        x.put(1, 1, 7);
        x.put(1, 2, 8);
        x.sink(1);
        Check.tape(x, "\1\1\1" + "\0\1\1" + "\1\1\1");
        Check.due("told", x.row(), 2);
        Check.due("mud", x.mud(), 1);
        Check.due("kind", x.at(1, 0), 0);
        Check.due("hard", x.at(1, 1), 7);
        Check.due("water", x.at(1, 2), 8);
        Check.due("dug", x.at(1, 3), 1);
        Check.due("beside", x.at(2, 0), 1);
    }

    private static void mudOfTheLatest() {
        Check.sentence("How much MUD the latest row() had that was not REFUSED (0 ahead of any).");
        ListenWells x = new ListenWells();
        Check.due("ahead of any", x.mud(), 0);
        x.row();
        Check.due("a refused one", x.mud(), 0);
        Check.tape(x, "\4\1\1\4\1\1\4");
        x.row();
        Check.due("three", x.mud(), 3);
        x.row();
        Check.due("a refused one leaves it", x.mud(), 3);
        Check.law(x, "says 1");
        x.image(0);
        x.back(0);
        Check.due("others leave it", x.mud(), 3);
        Check.tape(x, "\1\1\1");
        x.row();
        Check.due("none", x.mud(), 0);
    }

    private static void imageNumbers() {
        Check.sentence("BACK to IMAGE k: 0. -1; -2 it was not kept.");
        ListenWells x = new ListenWells();
        int[] bad = {-1, 2, Integer.MIN_VALUE, Integer.MAX_VALUE};
        for (int k : bad) {
            Check.due("image", x.image(k), -1);
            Check.due("back", x.back(k), -1);
        }
        for (int k = 0; k < 2; k++) {
            Check.due("not kept", x.back(k), -2);
        }
        Check.due("keep the second", x.image(1), 0);
        Check.due("the first is not kept", x.back(0), -2);
        Check.due("the second is", x.back(1), 0);
        Check.due("keep the first", x.image(0), 0);
        Check.due("it is", x.back(0), 0);
    }

    private static void fill(ListenWells x, int n) {
        for (int cell = 8; cell < 40; cell += 3) {
            x.put(cell, 0, (cell + n) % 4);
            x.put(cell, 1, 1 + (cell + n) % 9);
            x.put(cell, 2, 2 * cell + n);
        }
        x.sink(2 * n);
        x.put(8 + 2 * n + 1, 0, 3);
        x.put(8 + 2 * n + 1, 2, 60 + n);
        x.sink(2 * n + 1);
        x.listener(n, n);
        x.noise(n, 10 + n);
        x.noise(n + 2, 11 + n);
        x.heard(n, n == 1 ? 25 : 27);
        // another tongue for each n, and the wet one is not always the first
        x.well(n == 1 ? 0b000010 : 0b110111, n == 1 ? 1 : 0);
        x.well(n == 1 ? 0b111101 : 0b001000, n == 1 ? 0 : 1);
        x.terms(0, 100 * n);
        x.terms(1, n);
        x.terms(2, n);
        Check.law(x, "says 30 + " + n);
        x.force(x.count(6) - 1);
        x.dig(x.count(0) - 1, 1);
        x.haul(x.count(0) - 1);
        x.lie(0, n + 4);
        x.hush(n % 2);
    }

    private static void imagesKeep() {
        Check.sentence("BACK to one all that it keeps is as it was then");
        for (int k = 0; k < 2; k++) {
            ListenWells kept = new ListenWells();
            fill(kept, 1);
            // ahead of going back all is another: nothing of it may be left
            ListenWells x = new ListenWells();
            x.image(1 - k);
            fill(x, 1);
            x.image(k);
            x.back(1 - k);
            fill(x, 3);
            x.heard(3, 30);
            x.well(9, 1);
            Check.due("back", x.back(k), 0);
            // what can be undone is kept by none: the other one gets rid of it, too
            kept.image(k);
            kept.back(k);
            View.of(x).mustBe("back to image " + k, View.of(kept));
        }
    }

    private static void imagesKeepNot() {
        Check.sentence("IMAGES 0, 1 keep all but the TAPE, FAULT, MUD, where ORDERS stopped, what can be undone (nothing, behind back()), the latest SEASONS");
        ListenWells x = new ListenWells();
        x.put(3, 0, 2);
        x.sink(3);
        x.listener(0, 0);
        x.lie(0, 1);
        x.image(0);
        x.image(1);
        x.seasons(8, 7);
        Check.tape(x, "\4\4\4\4");
        x.row();
        Check.orders(x, "lie 0 in 1;haul 0");
        Check.law(x, "says 1+");
        x.feed(0, 0, 0, 0, 0);
        x.end(11);
        x.lie(0, 2);
        for (int k = 0; k < 2; k++) {
            Check.due("back", x.back(k), 0);
            Check.due("the tape", x.count(8), 11);
            Check.due("fault", x.fault(), 7);
            Check.due("mud", x.mud(), 2);
            Check.due("where orders stopped", x.stopped(), 1);
            Check.due("the latest seasons", x.drawn(0, 2), 7);
            Check.due("nothing can be undone", x.count(7), 0);
            Check.due("nothing can be undone", x.undo(), -3);
            Check.due("where the listener was", x.who(0, 0), 1);
        }
        ListenWells ahead = new ListenWells();
        ahead.listener(0, 0);
        ahead.lie(0, 3);
        Check.due("image", ahead.image(0), 0);
        Check.due("image leaves what can be undone", ahead.undo(), 3);
        ahead.back(0);
        Check.due("the image was ahead of the undoing", ahead.who(0, 0), 3);
    }

    private static void imagesStay() {
        Check.sentence("(IMAGES stay)");
        ListenWells x = new ListenWells();
        x.terms(0, 1);
        x.image(0);
        x.terms(0, 2);
        x.image(1);
        for (int n = 0; n < 3; n++) {
            x.terms(0, 9);
            x.put(20, 0, 3);
            x.back(0);
            Check.due("the first", x.count(15), 1);
            Check.due("rock", x.at(20, 0), 0);
            x.terms(0, 8);
            x.back(1);
            Check.due("the second", x.count(15), 2);
        }
        x.terms(0, 5);
        x.image(0);
        x.back(1);
        Check.due("the second stays", x.count(15), 2);
        x.back(0);
        Check.due("the first anew", x.count(15), 5);
    }

    private static void imagesOfLaws() {
        Check.sentence("BACK to one all that it keeps is as it was then (IMAGES stay).");
        ListenWells x = new ListenWells();
        Check.law(x, "says 31");
        x.force(0);
        x.image(0);
        for (int k = 1; k < 6; k++) {
            Check.law(x, "says " + (31 + k));
        }
        x.force(5);
        x.image(1);
        Check.due("full", Check.law(x, "says 1"), -5);
        x.back(0);
        Check.due("one law", x.count(6), 1);
        Check.due("in force", x.count(14), 0);
        Check.due("says", x.at(0, 4), 31);
        Check.due("no second", x.force(1), -2);
        Check.due("there is room again", Check.law(x, "says 41"), 1);
        x.force(1);
        Check.due("says", x.at(0, 4), 41);
        x.back(1);
        Check.due("six laws", x.count(6), 6);
        Check.due("in force", x.count(14), 5);
        for (int k = 0; k < 6; k++) {
            x.force(k);
            Check.due("says", x.at(0, 4), 31 + k);
        }
    }

    private static void imagesOfBare() {
        Check.sentence("IMAGE k is kept: 0; -1.");
        ListenWells x = new ListenWells();
        Check.due("of a new one", x.image(0), 0);
        fill(x, 1);
        x.back(0);
        View.of(x).mustBe("new again", View.of(new ListenWells()));
        Check.due("sink", x.sink(2), 0);
        Check.due("its buckets", x.of(0, 1), 0);
        Check.due("sink", x.sink(3), 1);
        Check.due("its buckets", x.of(1, 1), 0);
        x.listener(0, 0);
        x.noise(0, 9);
        Check.due("its noise is not hushed", x.who(0, 4), 0);
        x.noise(0, 9);
        Check.due("its noise is not hushed", x.who(1, 4), 0);
        Check.due("din", x.din(0), 18);
    }
}
