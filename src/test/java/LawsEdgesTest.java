/** Terms II, promises 3, 14, 15, 17, 19, sentence by sentence: what SUMS, TESTS, LAWS and ORDERS come to. */
public final class LawsEdgesTest {
    public static void main(String[] args) {
        beyond();
        dividedByNothing();
        cut();
        onlyIfItMatters();
        precedence();
        words();
        shaftOfLaws();
        holds();
        says();
        loses();
        digs();
        gives();
        noMoreThanThereIs();
        passes();
        withoutALaw();
        asksWhat();
        times();
        ifIsAskedEachTime();
        ifIsAskedFirst();
        sumsFromTheLeft();
        doneAndLatest();
        withoutSuchAOne();
        oneThatCannotBe();
        allAsItWasAhead();
        Check.end("LawsEdgesTest");
    }

    /** What a law's SUM says of CELL 9 (KIND 1, HARD 5, WATER 60; DAY 8, MOOD 4); 20: it is BROKEN. */
    private static int said(String sum) {
        ListenWells x = new ListenWells();
        x.put(9, 0, 1);
        x.put(9, 1, 5);
        x.put(9, 2, 60);
        x.terms(0, 8);
        x.terms(2, 4);
        Check.due("law says " + sum, Check.law(x, "says " + sum), 0);
        x.force(0);
        return x.at(9, 4);
    }

    private static void sum(String sum, int due) {
        Check.due(sum, said(sum), due);
        if (due < 8) {
            Check.due(sum + " in orders", Check.column(sum), due);
        }
    }

    private static void broken(String sum) {
        Check.due(sum + " is BROKEN", said(sum), 20);
        Check.due(sum + " is BROKEN in orders", Check.column(sum), -3);
    }

    private static void test(String test, boolean so) {
        ListenWells x = new ListenWells();
        Check.due("law if " + test, Check.law(x, "says 50 if " + test), 0);
        x.force(0);
        Check.due(test, x.at(0, 4), so ? 50 : 20);
        x.listener(0, 0);
        Check.due(test + " in orders", Check.orders(x, "lie 0 in 1 if " + test), so ? 1 : 0);
    }

    private static void beyond() {
        Check.sentence("Beyond 1,000,000,000 either way, or divided by 0 (/ cut towards 0, % what is left then), a SUM, a TEST is BROKEN");
        String most = "1000*1000*1000";
        String least = "[0-1000*1000*1000]";
        sum(most + "-999*1000*1000-999*1000*1000+998*1000*1000+5", 5);
        sum("5+" + most + "-" + most, 20);
        sum(most + "/1000/1000/1000+4", 5);
        broken(most + "+1");
        broken(most + "+1-1");
        broken("1+" + most);
        broken(most + "*2/1000/1000/1000");
        broken(most + "*1000*1000*1000");
        sum("6+" + least + "+" + most, 6);
        broken(least + "-1");
        broken(least + "-1+" + most);
        broken(least + "*2");
        broken("0-1-" + most);
        sum(least + "*[0-1]/1000/1000/1000+2", 3);
        // products that would be small again if they were cut to 32 bits
        broken("[65*1000+536]*[65*1000+536]");
        broken("1000*1000*1000*1000*1000*1000*1000");
        test("1000*1000*1000=1000*1000*1000", true);
        test("1000*1000*1000+1>1", false);
        test("not 1000*1000*1000+1>1", false);
        test("0-1000*1000*1000-1<1", false);
        test("0-1000*1000*1000<1", true);
    }

    private static void dividedByNothing() {
        Check.sentence("divided by 0");
        broken("1/0");
        broken("1%0");
        broken("0/0");
        broken("0%0");
        broken("7/[3-3]");
        broken("0*[1/0]");
        broken("5+1/0");
        broken("1/0-1/0");
        sum("0/5+3", 3);
        sum("0%5+3", 3);
        test("1/0=1", false);
        test("not 1/0=1", false);
        test("1=1/0", false);
        test("(1/0=1)", false);
    }

    private static void cut() {
        Check.sentence("(/ cut towards 0, % what is left then)");
        sum("7/2", 3);
        sum("[0-7]/2+9-1", 5);
        sum("7/[0-2]+9-1", 5);
        sum("[0-7]/[0-2]", 3);
        sum("1/2", 0);
        sum("[0-1]/2", 0);
        sum("7%2", 1);
        sum("[0-7]%2+1", 0);
        sum("[0-7]%3+6", 5);
        sum("7%[0-4]", 3);
        sum("[0-7]%[0-4]+4", 1);
        sum("6%3", 0);
        sum("2%7", 2);
    }

    private static void onlyIfItMatters() {
        Check.sentence("(\"or\", \"and\" ask what stands behind only if it can still matter)");
        test("1=1 or 1/0=1", true);
        test("1=2 or 1/0=1", false);
        test("1/0=1 or 1=1", false);
        test("not (1=2 and 1/0=1)", true);
        test("not (1=1 and 1/0=1)", false);
        test("not (1/0=1 and 1=2)", false);
        test("1=2 or 1=1 or 1/0=1", true);
        test("1=1 and 1=2 and 1/0=1 or 1=1", true);
        test("1=2 and 1/0=1 or 1=1", true);
        test("1=1 and 1/0=1 or 1=1", false);
        test("1=1 or 1/0=1 and 1=2", true);
        test("1=1 or 1=2 and 1/0=1 or 1/0=1", true);
        test("(1=1 or 1/0=1) and 1=1", true);
        test("(1=1 or 1/0=1) and 1/0=1", false);
        test("not (not 1=1 and 1/0=1)", true);
        test("(1=2 and 1/0=1 or 1=2) or 1=1", true);
    }

    private static void precedence() {
        Check.sentence("BOTH: PLAIN {\"and\" PLAIN}. PLAIN: \"not\" PLAIN | \"(\" TEST \")\" | SUM (\"<\" | \">\" | \"=\") SUM.");
        test("1=1 or 1=1 and 1=2", true);
        test("(1=1 or 1=1) and 1=2", false);
        test("1=2 and 1=1 or 1=1", true);
        test("1=2 and (1=1 or 1=1)", false);
        test("not 1=2 and 1=2", false);
        test("not (1=2 and 1=2)", true);
        test("not 1=1 or 1=1", true);
        test("not (1=1 or 1=1)", false);
        test("not not 1=1", true);
        test("not not not 1=1", false);
        test("1<2", true);
        test("2<2", false);
        test("2>1", true);
        test("2>2", false);
        test("2=2", true);
        test("1=2", false);
        test("not 2<1", true);
        test("not 1<2", false);
        test("not 1>2", true);
        test("not 2>1", false);
        test("2<1 and 1=1", false);
        test("1>2 and 1=1", false);
        test("2<1 or 1=1", true);
        test("1>2 or 1=2", false);
        test("1+1=2*1", true);
        // whatever stands ahead of it or behind it
        for (int n = 0; n < 5; n++) {
            String more = "+0".repeat(n);
            test("1" + more + "=1 or 1=2 and 1=2", true);
            test("1" + more + "=2 and 1=1 or 1=2", false);
            test("1=1 or 1" + more + "=2 and 1=2", true);
            test("1=2 and 1" + more + "=1 or 1=1", true);
            test("not (1=2 and 1" + more + "=1) and 1" + more + "=1", true);
            test("1" + more + "=1 or not 1=1", true);
            test("1" + more + "=2 and not 1=1 or 1=1", true);
            test("not 1=2 or not 1" + more + "=1 and 1=2", true);
        }
        test("0-1<0", true);
        Check.sentence("SUM: TERM {(\"+\" | \"-\") TERM}. TERM: PART {(\"*\" | \"/\" | \"%\") PART}.");
        sum("1+2*3", 7);
        sum("[1+1]*3", 6);
        sum("2*3+1", 7);
        sum("9-4-3", 2);
        sum("9-[4-3]-2", 6);
        sum("9-4+1", 6);
        sum("48/4/2", 6);
        sum("8/[4/2]", 4);
        sum("7%5*3", 6);
        sum("7%[1*4]", 3);
        sum("2*7/4", 3);
        sum("7-6/2*2", 1);
    }

    private static void words() {
        Check.sentence("All are asked of a CELL");
        sumOfLaw("cell", 9);
        sumOfLaw("column", 1);
        sumOfLaw("depth", 1);
        sumOfLaw("kind", 1);
        sumOfLaw("hard", 5);
        sumOfLaw("water", 60);
        sumOfLaw("day", 8);
        sumOfLaw("mood", 4);
        ListenWells x = new ListenWells();
        Check.law(x, "says cell;loses column");
        x.force(0);
        int[] cells = {0, 7, 8, 39};
        for (int cell : cells) {
            Check.due("cell", x.at(cell, 4), cell);
            Check.due("column", x.at(cell, 5), cell % 8);
        }
    }

    /** ORDERS have other words. */
    private static void sumOfLaw(String sum, int due) {
        Check.due(sum, said(sum), due);
    }

    private static void shaftOfLaws() {
        Check.sentence("(shaft: the one that digs, that hauls; -1 of \"says\", \"loses\")");
        sumOfLaw("shaft+5", 4);
        ListenWells x = new ListenWells();
        Check.law(x, "loses shaft+5;digs 10+shaft;gives 20+shaft;passes if shaft=1");
        x.force(0);
        x.put(10, 0, 1);
        x.put(20, 2, 99);
        for (int k = 0; k < 3; k++) {
            x.sink(k);
        }
        Check.due("loses", x.at(9, 5), 4);
        for (int k = 0; k < 3; k++) {
            Check.due("digs", x.asks(k, 20, 0), 10 + k);
            Check.due("gives", x.asks(k, 20, 2), 20 + k);
            Check.due("passes", x.asks(k, 10, 1), k == 1 ? 1 : 0);
        }
        Check.due("shaft 2 does not pass", x.dig(2, 1), -3);
        Check.due("shaft 1 digs", x.dig(1, 1), 9);
        Check.due("in days", x.count(15), 11);
        Check.due("shaft 1 passes", x.dig(1, 2), 10);
        ListenWells wet = new ListenWells();
        Check.law(wet, "gives 2+shaft");
        wet.force(0);
        for (int k = 0; k < 3; k++) {
            wet.put(k, 0, 3);
            wet.put(k, 2, 50);
            wet.sink(k);
        }
        for (int k = 0; k < 3; k++) {
            Check.due("hauls", wet.haul(k), 2 + k);
        }
    }

    private static void law(String law, int says) {
        ListenWells x = new ListenWells();
        Check.due("law " + law, Check.law(x, law), 0);
        x.force(0);
        Check.due(law, x.at(9, 4), says);
    }

    private static void holds() {
        Check.sentence("A CLAUSE HOLDS, if its \"if\" (if it has one) is so, and neither that nor its SUM is BROKEN.");
        law("says 30 if 1=1", 30);
        law("says 30 if 1=2", 20);
        law("says 30 if 1/0=1", 20);
        law("says 1/0", 20);
        law("says 1/0 if 1=1", 20);
        law("says 1000*1000*1000*1000", 20);
        Check.sentence("what the last \"says\" that HOLDS tells");
        law("says 30;says 40", 40);
        law("says 30;says 40 if 1=2", 30);
        law("says 30;says 40 if 1/0=1", 30);
        law("says 30;says 1/0", 30);
        law("says 30;says 40;says 1/0;says 50 if 1=2", 40);
        law("says 30;loses 9;digs 9;gives 9;passes", 30);
        law("says 30;says 40 if 1=2;says 50 if 2=3", 30);
        law("says 30 if 1=2;says 40 if 1=2", 20);
    }

    private static void says() {
        Check.sentence("Water in a CELL SAYS what the last \"says\" that HOLDS tells, 0 .. 99 (else the nearest), 20 without");
        law("says 0", 0);
        law("says 99", 99);
        law("says 100", 99);
        law("says 1000*1000*1000", 99);
        law("says 0-1", 0);
        law("says 0-1000*1000*1000", 0);
        law("loses 1", 20);
    }

    private static void loses() {
        Check.sentence("it LOSES 0 .. 9 on each step, 2 without");
        String[] sums = {"0", "9", "10", "1000*1000*1000", "0-1", "0-1000*1000*1000", "1/0"};
        int[] due = {0, 9, 9, 9, 0, 0, 2};
        for (int k = 0; k < sums.length; k++) {
            ListenWells x = new ListenWells();
            Check.law(x, "loses " + sums[k]);
            x.force(0);
            Check.due("loses " + sums[k], x.at(9, 5), due[k]);
            Check.due("on each of four steps", x.loud(9, 3), 20 - 4 * due[k]);
        }
    }

    private static void digs() {
        Check.sentence("a CELL DIGS in 1 .. 99 days, HARD without");
        String[] sums = {"1", "99", "100", "1000*1000*1000", "0", "0-1000*1000*1000", "1/0"};
        int[] due = {1, 99, 99, 99, 1, 1, 7};
        for (int k = 0; k < sums.length; k++) {
            ListenWells x = new ListenWells();
            Check.law(x, "digs " + sums[k]);
            x.force(0);
            x.put(9, 1, 7);
            x.sink(1);
            Check.due("asks, digs " + sums[k], x.asks(0, 9, 0), due[k]);
            x.dig(0, 1);
            Check.due("the day, digs " + sums[k], x.count(15), due[k]);
        }
    }

    private static void gives() {
        Check.sentence("a haul GIVES 0 .. 99, 5 without (no more than there is of WATER)");
        String[] sums = {"0", "98", "99", "100", "1000*1000*1000", "0-1", "0-1000*1000*1000", "1/0"};
        int[] due = {0, 98, 99, 99, 99, 0, 0, 5};
        for (int k = 0; k < sums.length; k++) {
            ListenWells x = new ListenWells();
            Check.law(x, "gives " + sums[k]);
            x.force(0);
            x.put(1, 0, 3);
            x.put(1, 2, 99);
            x.sink(1);
            Check.due("asks, gives " + sums[k], x.asks(0, 1, 2), due[k]);
            Check.due("haul, gives " + sums[k], x.haul(0), due[k]);
            Check.due("buckets, gives " + sums[k], x.of(0, 1), due[k]);
            Check.due("water, gives " + sums[k], x.at(1, 2), 99 - due[k]);
        }
    }

    private static void noMoreThanThereIs() {
        Check.sentence("(no more than there is of WATER)");
        for (int water = 0; water < 8; water++) {
            ListenWells x = new ListenWells();
            x.put(1, 0, 3);
            x.put(1, 2, water);
            x.put(2, 0, 3);
            x.put(2, 2, 99);
            x.sink(1);
            Check.due("asks", x.asks(0, 1, 2), Math.min(5, water));
            Check.due("haul", x.haul(0), Math.min(5, water));
            Check.due("left", x.at(1, 2), Math.max(0, water - 5));
            Check.due("the rest of the vein stays", x.at(2, 2), 99);
        }
    }

    private static void passes() {
        Check.sentence("a SHAFT PASSES a CELL of sand, if \"passes\" HOLDS (all others always)");
        String[] laws = {"says 1", "passes", "passes if 1=1", "passes if 1=2", "passes if 1/0=1", "passes;passes if 1=2",
            "passes if 1=2;passes", "passes if 1=2;passes if 1=3", "passes if kind=1"};
        boolean[] due = {false, true, true, false, false, true, true, false, true};
        for (int k = 0; k < laws.length; k++) {
            for (int kind = 0; kind < 4; kind++) {
                ListenWells x = new ListenWells();
                Check.law(x, laws[k]);
                x.force(0);
                x.put(9, 0, kind);
                x.sink(1);
                boolean can = kind != 1 || due[k];
                Check.due(laws[k] + ", asks of kind " + kind, x.asks(0, 9, 1), can ? 1 : 0);
                Check.due(laws[k] + ", digs into kind " + kind, x.dig(0, 1), can ? 9 : -3);
            }
        }
        ListenWells x = new ListenWells();
        x.put(9, 0, 1);
        x.sink(1);
        Check.due("without a law", x.asks(0, 9, 1), 0);
        Check.law(x, "passes");
        Check.due("with one that is not in force", x.dig(0, 1), -3);
    }

    private static void withoutALaw() {
        Check.sentence("one is in FORCE (NONE at first: no CLAUSE)");
        ListenWells x = new ListenWells();
        Check.law(x, "says 1;loses 1;digs 1;gives 1;passes");
        x.put(1, 0, 3);
        x.put(1, 2, 9);
        x.put(9, 0, 1);
        x.sink(0);
        for (int round = 0; round < 2; round++) {
            Check.due("says", x.at(1, 4), 20);
            Check.due("loses", x.at(1, 5), 2);
            Check.due("digs", x.asks(0, 1, 0), 3);
            Check.due("gives", x.asks(0, 1, 2), 5);
            Check.due("passes", x.asks(0, 9, 1), 0);
            x.force(0);
            Check.due("says by it", x.at(1, 4), 1);
            Check.due("gives by it", x.asks(0, 1, 2), 1);
            Check.due("passes by it", x.asks(0, 9, 1), 1);
            x.force(-1);
        }
    }

    private static void asksWhat() {
        Check.sentence("In how many days a SHAFT DIGS a CELL (what 0), whether it PASSES it (1: 1, 0), what a haul there GIVES (2). NONE.");
        ListenWells x = new ListenWells();
        x.put(30, 1, 8);
        x.put(30, 2, 4);
        x.sink(0);
        int[] due = {8, 1, 4};
        for (int what = 0; what < 3; what++) {
            Check.due("asks", x.asks(0, 30, what), due[what]);
            Check.due("no shaft", x.asks(1, 30, what), -1);
            Check.due("no cell", x.asks(0, 40, what), -1);
        }
        int[] bad = {-1, 3, Integer.MIN_VALUE, Integer.MAX_VALUE};
        for (int what : bad) {
            Check.due("no such what", x.asks(0, 30, what), -1);
        }
        Check.due("of one that is dug, too", x.asks(0, 0, 0), 3);
    }

    private static void times() {
        Check.sentence("Run CLAUSE by CLAUSE, each as often as TIMES tell (once without)");
        ListenWells x = new ListenWells();
        x.listener(0, 0);
        Check.due("once", Check.orders(x, "lie 0 in 1"), 1);
        Check.due("once", Check.orders(x, "lie 0 in 1 times 1"), 1);
        Check.due("twenty times", Check.orders(x, "lie 0 in 1 times 20"), 20);
        Check.due("12 times 20", Check.orders(x, "lie 0 in done%8 times 20;".repeat(11) + "lie 0 in done%8 times 20"), 240);
        Check.due("the last was done 239", x.who(0, 0), 239 % 8);
        Check.due("a clause is run out ahead of the next", Check.orders(x, "lie 0 in 1 times 3;lie 0 in 5 if column 0=1"), 4);
        Check.due("none", Check.orders(x, "lie 0 in 1 times 20 if 1=2"), 0);
    }

    private static void ifIsAskedEachTime() {
        Check.sentence("each time its \"if\" is asked (not run, if it is not so or BROKEN)");
        ListenWells x = new ListenWells();
        x.put(0, 0, 3);
        x.put(0, 2, 99);
        x.sink(0);
        x.listener(0, 0);
        Check.due("as long as it is so", Check.orders(x, "haul 0 times 20 if day<3"), 3);
        Check.due("day", x.count(15), 3);
        Check.due("not so at first, never then", Check.orders(x, "haul 0 times 20 if day>3"), 0);
        Check.due("BROKEN at done 1", Check.orders(x, "lie 0 in 2 times 5 if 1/[1-done]=1"), 1);
        Check.due("one that could not be is not run", Check.orders(x, "haul 7 if 1=2;dig 0 by 9 if 1/0=1;lie 9 in 1/0 if 1=2"), 0);
        Check.due("then the next", Check.orders(x, "haul 7 if 1/0=1;haul 0"), 1);
    }

    private static void ifIsAskedFirst() {
        Check.sentence("each time its \"if\" is asked (not run, if it is not so or BROKEN), then its SUMS from the left.");
        ListenWells x = new ListenWells();
        x.listener(0, 0);
        Check.due("a BROKEN SUM behind an if that is not so", Check.orders(x, "lie 0 in 1/done if done>0;lie 0 in 6"), 1);
        Check.due("column", x.who(0, 0), 6);
        Check.due("behind one that is so", Check.orders(x, "lie 0 in 1/done if done=0"), -3);
    }

    private static void sumsFromTheLeft() {
        Check.sentence("(a SHAFT, a WAY; a SHAFT; a NOISE; a LISTENER, a COLUMN.)");
        ListenWells x = new ListenWells();
        x.sink(3);
        x.sink(6);
        x.listener(0, 0);
        x.listener(0, 0);
        x.noise(0, 1);
        x.noise(0, 1);
        ListenWells first = new ListenWells();
        first.sink(1);
        first.listener(5, 0);
        Check.due("dig shaft 0 by way 0, into cell 0", Check.orders(first, "dig 0 by 0;lie 0 in latest+2"), 2);
        Check.due("told 0", first.who(0, 0), 2);
        Check.due("dig shaft 1 by way 0", Check.orders(x, "dig 1 by 0"), 1);
        Check.due("it is in", x.of(1, 0), 5);
        Check.due("dig shaft 0 by way 1", Check.orders(x, "dig 0 by 1"), 1);
        Check.due("it is in", x.of(0, 0), 11);
        Check.due("lie listener 1 in column 0 + 7", Check.orders(x, "lie 1 in 0+7"), 1);
        Check.due("lies in", x.who(1, 0), 7);
        Check.due("the other", x.who(0, 0), 0);
        Check.due("hush 1", Check.orders(x, "hush 1"), 1);
        Check.due("hushed", x.who(1, 4), 1);
        Check.due("the other", x.who(0, 4), 0);
    }

    private static void doneAndLatest() {
        Check.sentence("done: how many were run in this TEXT, latest: what the latest dig, haul in it told (-1: none)");
        ListenWells x = new ListenWells();
        x.put(9, 0, 3);
        x.put(9, 2, 12);
        x.sink(1);
        x.listener(0, 0);
        x.noise(0, 4);
        Check.due("done 0, latest -1", Check.orders(x, "lie 0 in 1 if done=0 and latest=0-1"), 1);
        Check.due("those not run are not done", Check.orders(x, "lie 0 in 1 times 3 if done<2;lie 0 in 2 if done=2"), 3);
        Check.due("hush, lie are no latest", Check.orders(x, "hush 0;lie 0 in 3;lie 0 in 4 if latest=0-1"), 3);
        Check.due("dig", Check.orders(x, "dig 0 by 1;lie 0 in 5 if latest=9;lie 0 in 6 if latest=9"), 3);
        Check.due("anew in each text", Check.orders(x, "lie 0 in 7 if done=0 and latest=0-1"), 1);
        Check.due("haul", Check.orders(x, "haul 0;lie 0 in latest;haul 0 times 2;lie 0 in latest"), 5);
        Check.due("the third haul told 2", x.who(0, 0), 2);
        Check.due("a haul of nothing tells 0", Check.orders(x, "haul 0;lie 0 in latest"), 2);
        Check.due("lies in", x.who(0, 0), 0);
    }

    private static void withoutSuchAOne() {
        Check.sentence("at: the CELL of a SHAFT, buckets, column (of a LISTENER): -1 without such a one.");
        ListenWells x = new ListenWells();
        for (int k = 0; k < 6; k++) {
            x.put(k, 0, 3);
            x.put(k, 2, 10 * k);
        }
        for (int k = 0; k < 6; k++) {
            Check.due("no shaft " + k, Check.orders(x, "lie 0 in 9 if not(at " + k + "=0-1 and buckets " + k + "=0-1)"), 0);
            x.sink(5 - k);
            x.haul(k);
            int given = Math.min(5, 10 * (5 - k));
            Check.due("shaft " + k, Check.orders(x, "lie 0 in 9 if not(at " + k + "=" + (5 - k) + " and buckets " + k + "=" + given + ")"), 0);
        }
        for (int k = 0; k < 5; k++) {
            Check.due("no listener " + k, Check.orders(x, "lie 9 in 9 if not column " + k + "=0-1"), 0);
            x.listener(7 - k, 0);
            Check.due("listener " + k, Check.orders(x, "lie 9 in 9 if not column " + k + "=7-" + k), 0);
        }
        Check.due("day", Check.orders(x, "lie 0 in 0 if day=6"), 1);
    }

    private static void oneThatCannotBe() {
        Check.sentence("One that can't be (a BROKEN SUM, as dig(), haul(), hush(), lie() are REFUSED) ends it");
        String[] bad = {"dig 1/0 by 1", "dig 0 by 1/0", "haul 1/0", "hush 1%0", "lie 1/0 in 1", "lie 0 in 1/0",
            "lie 0 in 1000*1000*1000*1000", "dig 0 by 3", "dig 0 by 0-1", "dig 2 by 1", "dig 0-1 by 1", "dig 0 by 0", "dig 1 by 1",
            "haul 2", "haul 0-1", "haul 0", "hush 1", "hush 0-1", "hush 0 times 2", "lie 0 in 8", "lie 0 in 0-1", "lie 1 in 1",
            "lie 0-1 in 1", "haul 1000*1000*1000", "haul 0-1000*1000*1000"};
        for (String order : bad) {
            ListenWells x = new ListenWells();
            x.put(7, 0, 2);
            x.sink(0);
            x.sink(7);
            x.listener(0, 0);
            x.noise(0, 4);
            Check.due(order, Check.orders(x, "lie 0 in 5;" + order + ";lie 0 in 6"), -3);
            Check.due(order + " stopped", x.stopped(), 1);
            Check.due(order + " column", x.who(0, 0), 0);
            Check.due(order + " status", x.status(), -3);
        }
    }

    private static void allAsItWasAhead() {
        Check.sentence("all is as it was ahead of it.");
        ListenWells x = new ListenWells();
        ListenWells same = new ListenWells();
        ListenWells[] both = {x, same};
        for (ListenWells one : both) {
            one.put(9, 0, 3);
            one.put(9, 2, 30);
            one.sink(1);
            one.sink(4);
            one.listener(3, 0);
            one.noise(2, 8);
            one.lie(0, 5);
        }
        Check.orders(x, "dig 0 by 1;haul 0 times 3;hush 0;lie 0 in 2 times 20;dig 1 by 2;hush 0");
        Check.orders(same, "hush 9 if 1=2;".repeat(5) + "hush 9");
        View.of(x).mustBe("behind orders that could not be", View.of(same));
        Check.due("undone is what was ahead", x.undo(), 3);
        Check.due("column", x.who(0, 0), 3);
        Check.due("nothing else", x.undo(), -3);
    }
}
