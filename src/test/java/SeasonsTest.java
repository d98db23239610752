/** Promises 40 to 45: SEASONS, IMAGES, counts, status. */
public final class SeasonsTest {
    public static void main(String[] args) {
        seasonsRefused();
        seasons();
        seasonsByHand();
        lastDay();
        images();
        imagesKeepAll();
        imagesKeepNotAll();
        imagesOfTwoWorlds();
        imagesOfLore();
        count();
        status();
        Check.end("SeasonsTest");
    }

    private static void seasonsRefused() {
        ListenWells x = new ListenWells();
        int[][] bad = {{-1, 1}, {1000001, 1}, {0, 0}, {0, 61}, {Integer.MAX_VALUE, 1}, {0, Integer.MIN_VALUE}};
        for (int[] numbers : bad) {
            Check.due("bad", x.seasons(numbers[0], numbers[1]), -1);
        }
        Check.due("no shafts", x.seasons(0, 1), -3);
        Check.due("none drawn", x.drawn(0, 2), -1);
        x.sink(0);
        Check.due("the most", x.seasons(1000000, 60), 0);
        Check.due("day", x.drawn(0, 2) > 0 ? 1 : 0, 1);
        int day = x.drawn(0, 2);
        x.seasons(0, 61);
        Check.due("a refused one leaves it", x.drawn(0, 2), day);
        Check.due("k aside", x.drawn(-77, 2), day);
        Check.due("no such what", x.drawn(0, 3), -1);
        Check.due("no such what", x.drawn(0, -1), -1);
        Check.due("no such shaft", x.drawn(1, 0), -1);
        Check.due("no such shaft", x.drawn(-1, 1), -1);
        x.sink(7);
        Check.due("not in those seasons", x.drawn(1, 0), -1);
    }

    private static void seasons() {
        ListenWells x = new ListenWells();
        x.put(0, 0, 3);
        x.put(0, 2, 12);
        x.sink(0);
        Check.due("5, 5, 2, 0", x.seasons(7, 4), 12);
        Check.due("buckets", x.drawn(0, 1), 12);
        Check.due("cell", x.drawn(0, 0), 0);
        Check.due("day", x.drawn(0, 2), 4);
        Check.due("on paper", x.of(0, 1), 0);
        Check.due("on paper", x.at(0, 2), 12);
        Check.due("on paper", x.count(15), 0);
        x.haul(0);
        Check.due("what came in them alone", x.seasons(7, 2), 7);
        Check.due("buckets", x.drawn(0, 1), 12);
        Check.due("what can be undone stays", x.count(7), 1);
    }

    private static void seasonsByHand() {
        for (int seed = 0; seed < 200; seed += 7) {
            byHand(dayLaws(), seed, 60);
            byHand(dayLaws(), 1000000 - seed, 33);
        }
    }

    private static ListenWells dayLaws() {
        ListenWells x = new ListenWells();
        x.sink(2);
        x.sink(5);
        x.put(13, 0, 3);
        x.put(13, 2, 90);
        x.put(10, 0, 1);
        Check.law(x, "gives day;passes if day > 30;digs 1 + day / 10");
        x.force(0);
        return x;
    }

    /** Does as the SEASONS would, call by call. */
    private static void byHand(ListenWells x, int seed, int n) {
        int told = x.seasons(seed, n);
        long s = seed;
        int came = 0;
        for (int k = 0; k < n; k++) {
            s = (s * 1103 + 12345) % 1000003;
            int shaft = (int) (s % 2);
            s = (s * 1103 + 12345) % 1000003;
            int way = (int) (s % 3);
            int given = x.haul(shaft);
            if (given >= 0) {
                came += given;
            } else if (x.dig(shaft, way) < 0) {
                x.terms(0, x.count(15) + 1);
            }
        }
        Check.due("came", told, came);
        for (int shaft = 0; shaft < 2; shaft++) {
            Check.due("cell", x.drawn(shaft, 0), x.of(shaft, 0));
            Check.due("buckets", x.drawn(shaft, 1), x.of(shaft, 1));
        }
        Check.due("day", x.drawn(0, 2), x.count(15));
    }

    private static void lastDay() {
        ListenWells x = new ListenWells();
        x.put(0, 0, 3);
        x.put(0, 2, 50);
        x.sink(0);
        x.terms(0, 9997);
        Check.due("two days are left", x.seasons(3, 60), 10);
        Check.due("day", x.drawn(0, 2), 9999);
        ListenWells dry = new ListenWells();
        dry.put(0, 0, 2);
        dry.sink(0);
        dry.terms(0, 9950);
        Check.due("nothing", dry.seasons(3, 60), 0);
        Check.due("day", dry.drawn(0, 2), 9999);
    }

    private static void images() {
        ListenWells x = new ListenWells();
        Check.due("no such image", x.image(2), -1);
        Check.due("no such image", x.image(-1), -1);
        Check.due("no such image", x.back(2), -1);
        Check.due("no such image", x.back(-1), -1);
        Check.due("not kept", x.back(0), -2);
        Check.due("not kept", x.back(1), -2);
        Check.due("kept", x.image(1), 0);
        Check.due("not kept", x.back(0), -2);
        x.sink(0);
        Check.due("kept", x.image(0), 0);
        Check.due("back", x.back(1), 0);
        Check.due("shafts", x.count(0), 0);
        Check.due("images stay", x.back(0), 0);
        Check.due("shafts", x.count(0), 1);
        Check.due("and again", x.back(1), 0);
        Check.due("shafts", x.count(0), 0);
        Check.due("dug", x.count(3), 0);
        // a law that is put behind back() does not change one that an image kept
        Check.law(x, "says 1");
        x.image(0);
        Check.law(x, "says 2");
        x.force(1);
        x.image(1);
        x.back(0);
        Check.due("laws", x.count(6), 1);
        Check.due("force", x.count(14), -1);
        Check.due("the second anew", Check.law(x, "says 3"), 1);
        x.force(1);
        Check.due("says", x.at(0, 4), 3);
        x.back(1);
        Check.due("force", x.count(14), 1);
        Check.due("says as it was then", x.at(0, 4), 2);
    }

    private static void imagesKeepAll() {
        ListenWells then = new ListenWells();
        fill(then, 1);
        // nothing can be undone behind a back(), so nothing may be here
        then.terms(2, 1);
        ListenWells x = new ListenWells();
        fill(x, 1);
        x.image(0);
        fill(x, 2);
        x.lie(0, 0);
        Check.due("back", x.back(0), 0);
        View.of(x).mustBe("as it was then", View.of(then));
    }

    private static void imagesKeepNotAll() {
        ListenWells x = new ListenWells();
        x.sink(2);
        x.image(0);
        Check.orders(x, "haul 9");
        Check.law(x, "digs");
        Check.tape(x, "\1\1\1\1");
        x.row();
        x.feed(0, 0, 0, 0, 0);
        x.seasons(4, 4);
        int day = x.drawn(0, 2);
        Check.due("back", x.back(0), 0);
        Check.due("not the tape", x.count(8), 20);
        Check.due("not fault", x.fault(), 4);
        Check.due("not mud", x.mud(), 1);
        Check.due("not where orders stopped", x.stopped(), 0);
        Check.due("not the seasons", x.drawn(0, 2), day);
        Check.due("nothing can be undone", x.count(7), 0);
        Check.due("not what was refused", x.count(11), 1);
        Check.due("not what was refused", x.count(13), 1);
    }

    /** Two images that share nothing: each comes back whole, again and again. */
    private static void imagesOfTwoWorlds() {
        for (int n = 0; n < 6; n++) {
            ListenWells x = new ListenWells();
            x.image(0);
            fill(x, 1);
            x.image(1);
            x.back(0);
            fill(x, 3);
            x.image(0);
            for (int k = 0; k <= n; k++) {
                x.back(1 - k % 2);
                Check.due("orders leave it", Check.orders(x, "lie 0 in 7 if 1 = 2"), 0);
            }
            ListenWells alone = new ListenWells();
            fill(alone, n % 2 == 0 ? 1 : 3);
            Check.orders(alone, "lie 0 in 7 if 1 = 2");
            alone.terms(2, alone.count(17));
            View.of(x).mustBe("as it was then", View.of(alone));
        }
    }

    private static void imagesOfLore() {
        ListenWells x = new ListenWells();
        x.image(0);
        x.heard(2, 14);
        x.well(5, 1);
        x.well(4, 0);
        long hidden = x.hidden();
        x.image(1);
        x.back(0);
        Check.due("all hidden", x.hidden(), (1L << 40) - 1);
        Check.due("no wells", x.tongue(0), 0);
        x.heard(0, 16);
        x.well(2, 0);
        x.well(3, 1);
        Check.due("another tongue", x.tongue(1), 1);
        Check.due("others hidden", x.hidden() == hidden ? 1 : 0, 0);
        x.well(1, 0);
        Check.due("another tongue", x.tongue(1), 3);
        x.back(1);
        Check.due("hidden as it was", x.hidden(), hidden);
        Check.due("tongue as it was", x.tongue(1), 1);
        x.well(1, 0);
        Check.due("tongue behind it", x.tongue(1), 5);
    }

    private static void fill(ListenWells x, int n) {
        for (int cell = 8; cell < 40; cell++) {
            x.put(cell, 0, (cell + n) % 4);
            x.put(cell, 1, 1 + (cell + n) % 9);
            x.put(cell, 2, 2 * cell + n);
        }
        x.sink(2 * n);
        x.sink(2 * n + 1);
        x.listener(n, n);
        x.listener(n + 1, n);
        x.noise(n, 10 + n);
        x.noise(n + 2, 11 + n);
        x.heard(n, 40 + n);
        x.well(n, 1);
        x.well(n + 8, 0);
        x.terms(0, 100 * n);
        x.terms(1, n);
        x.terms(2, n);
        Check.law(x, "says 30 + " + n);
        x.force(0);
        x.lie(0, n + 4);
        x.hush(n % 2);
    }

    private static void count() {
        ListenWells x = new ListenWells();
        Check.due("no such count", x.count(18), -1);
        Check.due("no such count", x.count(-1), -1);
        x.put(40, 0, 0);
        x.force(3);
        x.undo();
        x.undo();
        x.row();
        x.row();
        x.row();
        for (int k = 0; k < 9; k++) {
            x.listener(0, 0);
        }
        // these answer NONE, they are not REFUSED
        x.at(40, 0);
        x.end(-1);
        x.hears(9);
        x.compare(7);
        x.down(0, 0, 0);
        x.loud(40, 0);
        int[] due = {1, 1, 2, 4, 3};
        for (int k = 0; k < 5; k++) {
            Check.due("refused " + k, x.count(9 + k), due[k]);
        }
        x.image(0);
        x.back(0);
        for (int k = 0; k < 5; k++) {
            Check.due("refused " + k + " behind back", x.count(9 + k), due[k]);
        }
    }

    private static void status() {
        ListenWells x = new ListenWells();
        x.put(0, 0, 4);
        Check.due("put", x.status(), -1);
        x.feed(0, 0, 0, 0, 0);
        x.end(0);
        x.forget();
        x.at(0, 0);
        x.hidden();
        x.fault();
        x.count(0);
        x.drawn(0, 0);
        Check.due("others leave it", x.status(), -1);
        x.sink(0);
        Check.due("sink", x.status(), 0);
        x.sink(0);
        Check.due("sink", x.status(), -3);
        x.listener(0, 0);
        Check.due("listener", x.status(), 0);
        x.noise(9, 0);
        Check.due("noise", x.status(), -1);
        x.terms(2, 1);
        Check.due("terms", x.status(), 0);
        x.row();
        Check.due("row", x.status(), -6);
        Check.law(x, "says 1");
        Check.due("law", x.status(), 0);
        Check.orders(x, "haul 0");
        Check.due("orders", x.status(), -3);
        x.force(0);
        Check.due("force", x.status(), 0);
        x.force(-1);
        Check.due("force", x.status(), 0);
        x.force(-1);
        Check.due("force that tells NONE", x.status(), 0);
        x.dig(0, 3);
        Check.due("dig", x.status(), -1);
        x.dig(0, 1);
        Check.due("dig", x.status(), 0);
        x.haul(4);
        Check.due("haul", x.status(), -2);
        x.lie(0, 1);
        Check.due("lie", x.status(), 0);
        x.hush(0);
        Check.due("hush", x.status(), -2);
        x.undo();
        Check.due("undo", x.status(), 0);
        x.heard(8, 8);
        Check.due("heard", x.status(), -1);
        x.well(1, 1);
        Check.due("well", x.status(), 0);
        x.seasons(-1, 1);
        Check.due("seasons", x.status(), -1);
        x.image(0);
        Check.due("image", x.status(), 0);
        x.back(1);
        Check.due("back", x.status(), -2);
        x.back(0);
        Check.due("back", x.status(), 0);
    }
}
