/** Promises 10 to 18: the TAPE, ROWS, where LAWS and ORDERS are faulty, FORCE. */
public final class TapeTest {
    public static void main(String[] args) {
        feedAndEnd();
        row();
        rowMud();
        lawFaults();
        orderFaults();
        limits();
        lawRoom();
        faultStays();
        force();
        Check.end("TapeTest");
    }

    private static String times(String text, int n) {
        return text.repeat(n);
    }

    private static void feedAndEnd() {
        ListenWells x = new ListenWells();
        for (int n = 1; n <= 20; n++) {
            Check.due("feed", x.feed(0, 0, 0, 0, 0), 20 * n);
        }
        Check.due("beyond 400", x.feed(0, 0, 0, 0, 0), -1);
        Check.due("bytes", x.count(8), 400);
        Check.due("not so many", x.end(401), -1);
        Check.due("below 0", x.end(-1), -1);
        Check.due("all", x.end(400), 400);
        Check.due("fewer", x.end(381), 381);
        Check.due("beyond 400", x.feed(0, 0, 0, 0, 0), -1);
        Check.due("bytes", x.count(8), 381);
        Check.due("fewer", x.end(380), 380);
        Check.due("up to 400", x.feed(0, 0, 0, 0, 0), 400);
        Check.due("none", x.end(0), 0);
        Check.due("bytes", x.count(8), 0);
        Check.due("not counted as REFUSED", x.count(9), 0);
        // the highest byte first: 3 9 99, 3 9 98
        x.feed(0x03096303, 0x09620000, 0, 0, 0);
        x.end(6);
        Check.due("row", x.row(), 2);
        Check.due("water", x.at(0, 2), 99);
        Check.due("water", x.at(1, 2), 98);
    }

    private static void row() {
        ListenWells x = new ListenWells();
        Check.due("empty", x.row(), -6);
        Check.due("status", x.status(), -6);
        StringBuilder all = new StringBuilder();
        for (int cell = 0; cell < 40; cell++) {
            all.append((char) (cell % 4)).append((char) (1 + cell % 9)).append((char) (2 * cell));
        }
        Check.tape(x, all.toString());
        Check.due("all cells", x.row(), 40);
        Check.due("no mud", x.mud(), 0);
        Check.due("the tape is empty", x.count(8), 0);
        for (int cell = 0; cell < 40; cell++) {
            Check.due("kind", x.at(cell, 0), cell % 4);
            Check.due("hard", x.at(cell, 1), 1 + cell % 9);
            Check.due("water", x.at(cell, 2), 2 * cell);
        }
    }

    private static void rowMud() {
        ListenWells x = new ListenWells();
        x.sink(0);
        StringBuilder text = new StringBuilder();
        text.append("\2\5\t");           // is dug
        text.append("\4\5\t");           // kind
        text.append("\1\0\t");           // hard
        text.append("\1\12\t");          // hard
        text.append("\1\1d");            // water 100
        text.append("\1\1c");            // can be
        text.append((char) 255).append("\1\1");
        text.append("\1\2");             // ends within
        Check.tape(x, text.toString());
        Check.due("told", x.row(), 1);
        Check.due("mud", x.mud(), 7);
        int[] kinds = {0, 0, 0, 0, 0, 1, 0, 0};
        for (int cell = 0; cell < 8; cell++) {
            Check.due("kind of " + cell, x.at(cell, 0), kinds[cell]);
        }
        Check.due("hard", x.at(5, 1), 1);
        Check.due("water", x.at(5, 2), 99);
        Check.due("an empty one", x.row(), -6);
        Check.due("mud stays", x.mud(), 7);
        Check.tape(x, times("\1\1\1", 133) + "\1");
        Check.due("behind cell 39", x.row(), 39);
        Check.due("mud behind cell 39", x.mud(), 95);
        Check.tape(x, "\1");
        Check.due("one byte", x.row(), 0);
        Check.due("mud of one byte", x.mud(), 1);
    }

    private static void lawFaults() {
        Check.faultyLaw("", 0);
        Check.faultyLaw("   ", 3);
        Check.faultyLaw(";", 0);
        Check.faultyLaw("passes;", 7);
        Check.faultyLaw("passes; ", 8);
        Check.faultyLaw("passes;;passes", 7);
        Check.faultyLaw("passes passes", 7);
        Check.faultyLaw("  pass", 2);
        Check.faultyLaw("passess", 0);
        Check.faultyLaw("passe", 0);
        Check.faultyLaw("Says 1", 0);
        Check.faultyLaw("says1x", 5);
        Check.faultyLaw("says 1 2", 7);
        Check.faultyLaw("says 1 +", 8);
        Check.faultyLaw("says 1 + ", 9);
        Check.faultyLaw("says + 1", 5);
        Check.faultyLaw("says - 1", 5);
        Check.faultyLaw("says (1)", 5);
        Check.faultyLaw("says [1)", 7);
        Check.faultyLaw("says []", 6);
        Check.faultyLaw("says 1]", 6);
        Check.faultyLaw("says 1\n", 6);
        Check.faultyLaw("says 1 if", 9);
        Check.faultyLaw("says 1 if 2", 11);
        Check.faultyLaw("says 1 if 2 <", 13);
        Check.faultyLaw("says 1 if 2 < 3 < 4", 16);
        Check.faultyLaw("says 1 if 2 <= 3", 13);
        Check.faultyLaw("says 1 if (2 + 3) < 4", 16);
        Check.faultyLaw("says 1 if [2 < 3]", 13);
        Check.faultyLaw("says 1 if not", 13);
        Check.faultyLaw("says 1 if 1 not = 2", 12);
        Check.faultyLaw("says 1 if 1 = 2 or", 18);
        Check.faultyLaw("says 1 if 1 = 2 and and", 20);
        Check.faultyLaw("says 1 if or 1 = 2", 10);
        Check.faultyLaw("says 1 if 1 = 1 if 1 = 1", 16);
        Check.faultyLaw("says if 1 = 1", 5);
        Check.faultyLaw("says done", 5);
        Check.faultyLaw("says buckets 1", 5);
        Check.faultyLaw("says column 1", 12);
        Check.faultyLaw("says 1 times 2", 7);
        Check.faultyLaw("haul 1", 0);
        Check.faultyLaw("says 1001", 5);
        Check.faultyLaw("says 99999999999999999999999999999", 5);
        Check.faultyLaw("says " + (char) 200, 5);
        Check.faultyLaw("says 1" + (char) 0, 6);
        Check.goodLaw("says 1000");
        Check.goodLaw("says 0000000000000000000000001000");
        Check.goodLaw("  says1;passes   ");
        Check.goodLaw("says[1]if(1=1)and not 2<3or((1>2))");
        Check.goodLaw("says cell+column-depth*kind/hard%water+shaft+day+mood");
        Check.goodLaw("passes if not not not not 1 = 1");
        Check.goodLaw("passes if [1 + 2] * 3 = [[4]]");
    }

    private static void orderFaults() {
        Check.faultyOrders("", 0);
        Check.faultyOrders("  ", 2);
        Check.faultyOrders("says 1", 0);
        Check.faultyOrders("dig 1 by", 8);
        Check.faultyOrders("dig by 1", 4);
        Check.faultyOrders("dig 1 1", 6);
        Check.faultyOrders("lie 1 by 1", 6);
        Check.faultyOrders("haul 1 by 1", 7);
        Check.faultyOrders("hush 1 in 1", 7);
        Check.faultyOrders("haul 1 times", 12);
        Check.faultyOrders("haul 1 times 21", 13);
        Check.faultyOrders("haul 1 times 1001", 13);
        Check.faultyOrders("haul 1 times day", 13);
        Check.faultyOrders("haul 1 times 2 times 3", 15);
        Check.faultyOrders("haul 1 times [2]", 13);
        Check.faultyOrders("haul 1 if 1 = 1 times 2", 16);
        Check.faultyOrders("haul at", 7);
        Check.faultyOrders("haul at 6", 8);
        Check.faultyOrders("haul at [1]", 8);
        Check.faultyOrders("haul buckets 6", 13);
        Check.faultyOrders("haul buckets", 12);
        Check.faultyOrders("haul column 5", 12);
        Check.faultyOrders("haul column", 11);
        Check.faultyOrders("haul at day", 8);
        Check.faultyOrders("haul cell", 5);
        Check.faultyOrders("haul mood", 5);
        Check.faultyOrders("haul shaft", 5);
        Check.faultyOrders("haul day 1", 9);
        Check.faultyOrders("haul done 1", 10);
        Check.faultyOrders("haul latest 1", 12);
        Check.faultyOrders("haul 1;", 7);
        Check.faultyOrders("haul bucketss", 5);
        Check.faultyOrders("haul bucketssays 1", 5);
        Check.faultyOrders("haul " + times("a", 395), 5);
        Check.faultyOrders(times(";", 400), 0);
        Check.faultyOrders("haul" + times(" ", 396), 400);
        ListenWells x = new ListenWells();
        Check.due("all words", Check.orders(x, "haul day+done*latest+at 5-buckets 5/column 4 times 20 if 1=2;hush at0times01if 1>2"), 0);
        Check.due("no fault", x.fault(), -1);
    }

    private static void limits() {
        Check.goodLaw("passes" + times(";passes", 11));
        Check.faultyLaw("passes" + times(";passes", 12), 84);
        Check.faultyLaw("passes" + times(";passes", 11) + "; !", 85);
        Check.faultyLaw("passes" + times(";passes", 11) + ";", 84);
        Check.goodLaw("says 1" + times("+1", 49));
        Check.faultyLaw("says 1" + times("+1", 50), 105);
        Check.faultyLaw("says 1" + times("+1", 49) + "+!", 105);
        Check.goodLaw("says 1" + times("+1", 29) + ";says 1" + times("+1", 17) + " if day=1");
        Check.faultyLaw("says 1" + times("+1", 29) + ";says 1" + times("+1", 18) + " if day=1", 115);
        Check.faultyLaw("says 1" + times("+1", 49) + "+[[1", 107);
        Check.faultyLaw("says 1" + times("+1", 49) + "+hard", 105);
        Check.goodLaw("says " + times("[", 8) + "1" + times("]", 8));
        Check.faultyLaw("says " + times("[", 9) + "1" + times("]", 9), 13);
        Check.goodLaw("passes if " + times("(", 8) + "1=1" + times(")", 8));
        Check.faultyLaw("passes if " + times("(", 9) + "1=1" + times(")", 9), 18);
        Check.goodLaw("passes if ((((not ([[[1]]]=1)))))and((1=1))");
        Check.faultyLaw("passes if ((((([[[[1]]]]=1)))))", 18);
        Check.faultyLaw("passes if ((((([[[1]]]=[[[[1]]]])))))", 26);
        Check.goodLaw("says " + times("[1]+", 20) + "[1]");
        Check.goodLaw("passes if " + times("not ", 96) + "1=1");
        Check.goodLaw("passes if " + times("not(", 8) + "1=1" + times(")", 8));
        // S, L and TIMES are no PARTS; the words ahead of them are
        ListenWells x = new ListenWells();
        String many = "at 1" + times("+at 1", 48);
        Check.due("50 parts", Check.orders(x, "haul " + many + "+1 times 20 if 1=1"), -6);
        Check.due("the 51st", x.fault(), 5 + 4 + 48 * 5 + 2 + 13);
        Check.due("49 parts and one", Check.orders(x, "haul " + many + "+1 times 20"), -3);
        Check.due("the 51st is a word", Check.orders(x, "haul " + many + "+1+at 1"), -6);
        Check.due("at the word", x.fault(), 5 + 4 + 48 * 5 + 3);
    }

    private static void lawRoom() {
        ListenWells x = new ListenWells();
        for (int k = 0; k < 6; k++) {
            Check.due("law", Check.law(x, "says " + k), k);
        }
        Check.due("a faulty one", Check.law(x, "say"), -5);
        Check.due("the tape is empty", x.count(8), 0);
        Check.due("it was not read", x.fault(), -1);
        Check.due("no room", Check.law(x, "says 1"), -5);
        Check.due("laws", x.count(6), 6);
        Check.due("no room is counted", x.count(12), 2);
        for (int k = 0; k < 6; k++) {
            x.force(k);
            Check.due("each says its own", x.at(0, 4), k);
        }
    }

    private static void faultStays() {
        ListenWells x = new ListenWells();
        Check.law(x, "says 1 +");
        Check.due("fault", x.fault(), 8);
        x.row();
        x.put(0, 0, 9);
        Check.due("others leave it", x.fault(), 8);
        Check.law(x, "says 1");
        Check.due("none", x.fault(), -1);
        Check.orders(x, "haul");
        Check.due("of orders", x.fault(), 4);
        Check.due("stopped nowhere", x.stopped(), -1);
        Check.orders(x, "haul 0");
        Check.due("one that can't be has none", x.fault(), -1);
        Check.due("stopped", x.stopped(), 0);
        Check.law(x, "x");
        Check.due("law() leaves where orders stopped", x.stopped(), 0);
        Check.orders(x, "haul");
        Check.due("the latest one has no such", x.stopped(), -1);
    }

    private static void force() {
        ListenWells x = new ListenWells();
        Check.due("none", x.force(-1), -1);
        Check.due("not REFUSED", x.status(), 0);
        Check.due("no such", x.force(0), -2);
        Check.due("no such", x.force(-2), -2);
        Check.due("no such", x.force(Integer.MAX_VALUE), -2);
        Check.due("counted", x.count(10), 3);
        Check.law(x, "says 1");
        Check.law(x, "says 2");
        Check.due("first", x.force(0), -1);
        Check.due("not counted", x.count(9), 0);
        Check.due("second", x.force(1), 0);
        Check.due("says", x.at(0, 4), 2);
        Check.due("count tells it", x.count(14), 1);
        Check.due("a bad one", x.force(2), -2);
        Check.due("stays", x.count(14), 1);
        Check.due("none again", x.force(-1), 1);
        Check.due("says", x.at(0, 4), 20);
    }
}
