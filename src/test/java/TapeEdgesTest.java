/** Terms II, promises 10 to 18, sentence by sentence: the TAPE, TOKENS, what both languages share, FAULTS. */
public final class TapeEdgesTest {
    public static void main(String[] args) {
        tape();
        feedBeyond();
        feedBytes();
        end();
        tokens();
        blanks();
        clauses();
        numbers();
        parts();
        brackets();
        grammar();
        faultOfTheEnd();
        lawGrammar();
        lawWords();
        orderGrammar();
        orderWords();
        timesAndPlaces();
        lawRoom();
        lawEmptiesTheTape();
        ordersEmptyTheTape();
        faultOfTheLatest();
        stoppedOfTheLatest();
        force();
        Check.end("TapeEdgesTest");
    }

    /** A text in which ^ stands ahead of the TOKEN that can't go on there. */
    private static void badLaw(String marked) {
        Check.faultyLaw(marked.replace("^", ""), marked.indexOf('^'));
    }

    private static void badOrders(String marked) {
        Check.faultyOrders(marked.replace("^", ""), marked.indexOf('^'));
    }

    private static void goodOrders(String text) {
        ListenWells x = new ListenWells();
        int run = Check.orders(x, text);
        Check.due("orders '" + text + "' are read", run == -6 ? 0 : 1, 1);
        Check.due("fault of orders '" + text + "'", x.fault(), -1);
    }

    private static void tape() {
        Check.sentence("TEXTS are on a TAPE of at most 400 bytes.");
        Check.goodLaw("says 1" + " ".repeat(394));
        Check.goodLaw(" ".repeat(394) + "passes");
        Check.goodLaw("says " + "0".repeat(394) + "1");
        Check.faultyLaw(" ".repeat(395) + "passe", 395);
        goodOrders("haul " + "0".repeat(394) + "9");
    }

    private static void feedBeyond() {
        Check.sentence("NONE, if there would be more than 400.");
        ListenWells x = new ListenWells();
        for (int n = 1; n <= 20; n++) {
            Check.due("feed", x.feed(0x20202020, 0x20202020, 0x20202020, 0x20202020, 0x20202020), 20 * n);
        }
        Check.due("full", x.feed(0, 0, 0, 0, 0), -1);
        Check.due("bytes", x.count(8), 400);
        for (int n = 399; n > 380; n--) {
            x.end(n);
            Check.due("no room for twenty behind " + n, x.feed(0, 0, 0, 0, 0), -1);
            Check.due("none of them came", x.count(8), n);
        }
        x.end(380);
        Check.due("just room for twenty", x.feed(0x20202020, 0x20202020, 0x20202020, 0x20706173, 0x73657320), 400);
        Check.due("they came behind", x.law(), 0);
        Check.due("not counted", x.count(12), 0);
    }

    private static void feedBytes() {
        Check.sentence("Twenty bytes come behind the TAPE, four of each number, the highest first: how many it has.");
        // KIND 1, HARD 2, WATER n for cells 0 to 5, then KIND 3 and HARD 9
        ListenWells x = new ListenWells();
        Check.due("twenty", x.feed(0x01020001, 0x02010102, 0x02010203, 0x01020401, 0x02050309), 20);
        Check.due("six cells and a part of one", x.row(), 6);
        for (int cell = 0; cell < 6; cell++) {
            Check.due("kind", x.at(cell, 0), 1);
            Check.due("hard", x.at(cell, 1), 2);
            Check.due("water", x.at(cell, 2), cell);
        }
        Check.due("the seventh is as it was", x.at(6, 1), 3);
        // a byte is 0 .. 255, of numbers below 0, too
        ListenWells high = new ListenWells();
        high.feed(-1, Integer.MIN_VALUE, Integer.MAX_VALUE, 0x030900FF, 0x09000309);
        // 255 255 255 | 255 128 0 | 0 0 127 | 255 255 255 | 3 9 0 | 255 9 0 | 3 9
        Check.due("one can be", high.row(), 1);
        Check.due("mud", high.mud(), 6);
        Check.due("that one", high.at(4, 1), 9);
    }

    private static void end() {
        Check.sentence("The TAPE has its first n bytes alone: n. NONE, if it has not so many, or n is below 0.");
        ListenWells x = new ListenWells();
        Check.due("of an empty tape", x.end(0), 0);
        Check.due("not so many", x.end(1), -1);
        Check.due("below 0", x.end(-1), -1);
        x.feed(0x03090103, 0x09020309, 0x03030904, 0x03090503, 0x09060309);
        Check.due("not so many", x.end(21), -1);
        Check.due("not so many", x.end(Integer.MAX_VALUE), -1);
        Check.due("below 0", x.end(-1), -1);
        Check.due("below 0", x.end(Integer.MIN_VALUE), -1);
        Check.due("all stay", x.count(8), 20);
        Check.due("all of them", x.end(20), 20);
        Check.due("fewer", x.end(6), 6);
        Check.due("no more as many", x.end(7), -1);
        Check.due("the first six", x.row(), 2);
        Check.due("the first", x.at(0, 2), 1);
        Check.due("the second", x.at(1, 2), 2);
        x.feed(0, 0, 0, 0, 0);
        Check.due("none", x.end(0), 0);
        Check.due("bytes", x.count(8), 0);
    }

    private static void tokens() {
        Check.sentence("TOKENS: longest rows of letters a .. z, of digits, single other bytes, any blanks (32) between.");
        Check.goodLaw("says1if2<3");
        Check.goodLaw("says 1if day=1or mood=2and 3<4");
        badLaw("^saysday");
        badLaw("^say s 1");
        badLaw("says 10^day");
        badLaw("says 1 ^0");
        badLaw("says ^da y");
        badLaw("says 1 ^iff 1 = 1");
        badLaw("says 1 if 1 <^= 2");
        badLaw("says 1 if 1 =^= 2");
        badLaw("passes if ^notnot 1 = 1");
        // the letters end at a and z, the digits at 0 and 9
        badLaw("^`");
        badLaw("^{");
        badLaw("says 1^`");
        badLaw("says day^{");
        badLaw("says day^`");
        badLaw("says 1^:");
        badLaw("says ^:");
        badLaw("^Passes");
        badLaw("says ^DAY");
        badLaw("says day^D");
        Check.goodLaw("says 0 + 9 - 19 * 90");
        badLaw("says day^" + (char) 255);
        badLaw("says day^" + (char) 128);
        badLaw("says day^_1");
        badLaw("says 1^.5");
        badLaw("says 1^,000");
    }

    private static void blanks() {
        Check.sentence("any blanks (32) between");
        Check.goodLaw("   says   1   ;   passes   ");
        goodOrders("  haul   9   times   2   if   1   =   2   ");
        int[] others = {0, 9, 10, 13, 31, 33, 127, 160, 255};
        for (int other : others) {
            Check.faultyLaw((char) other + "passes", 0);
            Check.faultyLaw("says" + (char) other + "1", 4);
            Check.faultyLaw("passes" + (char) other, 6);
        }
    }

    private static void clauses() {
        Check.sentence("CLAUSE {\";\" CLAUSE}, 12 at most (FAULT at the 13th's first TOKEN).");
        String eleven = "passes;".repeat(11);
        Check.goodLaw(eleven + "passes");
        badLaw(eleven + "passes;^passes");
        badLaw(eleven + "passes ;  ^says 1 if 1 = 1");
        badLaw(eleven + "passes; ^!");
        badLaw(eleven + "passes;^");
        badLaw(eleven + "passes; ^;");
        badLaw(eleven + "^;");
        badLaw(eleven + "^");
        badLaw("^;passes");
        badLaw("passes;^;passes");
        badLaw("^" + ";".repeat(400));
        badOrders("^" + ";".repeat(400));
        String elevenHauls = "haul 9 if 1=2;".repeat(11);
        goodOrders(elevenHauls + "haul 9");
        badOrders(elevenHauls + "haul 9;^haul 9");
        badOrders(elevenHauls + "haul 9;  ^nothing");
        badOrders(elevenHauls + "haul 9;^");
        badOrders("haul 9;^;haul 9");
        ListenWells x = new ListenWells();
        Check.law(x, "says 1;" + "loses 3;".repeat(10) + "says 12");
        x.force(0);
        Check.due("the 12th is asked", x.at(0, 4), 12);
        x.listener(0, 0);
        Check.due("twelve are run", Check.orders(x, "lie 0 in 1;".repeat(11) + "lie 0 in 7"), 12);
        Check.due("the 12th, too", x.who(0, 0), 7);
    }

    private static void numbers() {
        Check.sentence("NUMBER (to 1,000)");
        Check.goodLaw("says 0");
        Check.goodLaw("says 999");
        Check.goodLaw("says 1000");
        Check.goodLaw("says 0001000");
        badLaw("says ^1001");
        badLaw("says ^10000");
        badLaw("says ^0001001");
        // numbers that would be small again if they were cut to 32 or 64 bits
        badLaw("says ^4294967297");
        badLaw("says ^2147483648");
        badLaw("says ^18446744073709551617");
        badLaw("says ^" + "9".repeat(395));
        badLaw("says 1 if ^1001 = 1");
        goodOrders("haul 1000");
        badOrders("haul ^1001");
        badOrders("haul ^4294967296");
        badOrders("haul at ^4294967296");
        badOrders("haul column ^4294967296");
        badOrders("haul 1 times ^4294967297");
    }

    private static void parts() {
        Check.sentence("50 PARTS that are NUMBERS and words (FAULT at the 51st)");
        String fifty = "1" + "+1".repeat(49);
        Check.goodLaw("says " + fifty);
        badLaw("says " + fifty + "+^1");
        badLaw("says " + fifty + "+^day");
        badLaw("says " + fifty + "+^1001");
        badLaw("says " + fifty + "+[^1]");
        badLaw("says " + fifty + " if ^1 = 1");
        badLaw("says " + fifty + " if not (^day = 1)");
        badLaw("says " + fifty + ";says ^1");
        Check.goodLaw("says " + fifty + ";passes");
        String fiftyWords = "day" + "+day".repeat(49);
        Check.goodLaw("says " + fiftyWords);
        badLaw("says " + fiftyWords + "+^day");
        badLaw("says " + fiftyWords + "+^1");
        // brackets are no PARTS
        Check.goodLaw("says [1]" + "+[1]".repeat(49));
        badLaw("says [1]" + "+[1]".repeat(49) + "+[^1]");
        // those of all CLAUSES together, of SUMS and of TESTS
        Check.goodLaw("says 1;".repeat(10) + "says 1" + "+1".repeat(37) + " if 1=1");
        badLaw("says 1;".repeat(10) + "says 1" + "+1".repeat(37) + " if 1=1+^1");
        Check.sentence("S, L, TIMES aside, NUMBERS and words count as PARTS.");
        String fiftyPlaces = "at 1" + "+at 1".repeat(49);
        goodOrders("haul " + fiftyPlaces);
        goodOrders("haul " + fiftyPlaces + " times 20");
        badOrders("haul " + fiftyPlaces + "+^at 1");
        badOrders("haul " + fiftyPlaces + "+^1");
        badOrders("haul " + fiftyPlaces + " times 20 if ^1=1");
        badOrders("haul " + fifty + "+^column 1");
        goodOrders("lie " + "1+".repeat(24) + "column 4 in " + "1+".repeat(24) + "buckets 5 times 20");
        badOrders("lie " + "1+".repeat(24) + "column 4 in " + "1+".repeat(24) + "buckets 5 times 20;haul ^1");
    }

    private static void brackets() {
        Check.sentence("8 brackets of both kinds within one another (FAULT at the 9th) at most.");
        Check.goodLaw("says " + "[".repeat(8) + "1" + "]".repeat(8));
        badLaw("says " + "[".repeat(8) + "^[1" + "]".repeat(9));
        badLaw("says " + "[".repeat(8) + "^[");
        Check.goodLaw("passes if " + "(".repeat(8) + "1=1" + ")".repeat(8));
        badLaw("passes if " + "(".repeat(8) + "^(1=1" + ")".repeat(9));
        badLaw("passes if " + "not (".repeat(8) + "not ^(1=1" + ")".repeat(9));
        for (int round = 0; round <= 8; round++) {
            String open = "(".repeat(round) + "[".repeat(8 - round);
            String close = "]".repeat(8 - round) + "=1" + ")".repeat(round);
            Check.goodLaw("passes if " + open + "1" + close);
            badLaw("passes if " + open + "^[1]" + close);
        }
        badLaw("passes if " + "(".repeat(7) + "[1]=[^[1]]");
        badLaw("passes if " + "(".repeat(7) + "1=[^[1]]");
        badLaw("passes if " + "(".repeat(8) + "1=^[1]");
        // what is closed does not count
        Check.goodLaw("passes if " + "((((((((1=1)))))))) and ".repeat(4) + "((((((((1=1))))))))");
        Check.goodLaw("says " + "[[[[[[[[1]]]]]]]]+".repeat(8) + "[[[[[[[[1]]]]]]]]");
        Check.goodLaw("says [[[[[[[[1]]]]]]]] if ((((((([1]=1)))))))");
        goodOrders("haul [[[[[[[[9]]]]]]]]");
        badOrders("haul [[[[[[[[^[9]]]]]]]]]");
        goodOrders("lie [[[[[[[[9]]]]]]]] in [[[[[[[[9]]]]]]]] if (((([[[[9]]]]=1))))");
        badOrders("lie 1 in 1 if (((([[[[^[9]]]]]=1))))");
    }

    private static void grammar() {
        Check.sentence("TEST: BOTH {\"or\" BOTH}. BOTH: PLAIN {\"and\" PLAIN}.");
        Check.goodLaw("passes if 1=1 or 1=2 and 1=3 or 1=4");
        badLaw("passes if ^or 1=1");
        badLaw("passes if ^and 1=1");
        badLaw("passes if 1=1 or^");
        badLaw("passes if 1=1 and^");
        badLaw("passes if 1=1 or ^or 1=1");
        badLaw("passes if 1=1 or ^and 1=1");
        badLaw("passes if 1=1 and ^or 1=1");
        badLaw("passes if 1=1 ^not 1=1");
        Check.sentence("PLAIN: \"not\" PLAIN | \"(\" TEST \")\" | SUM (\"<\" | \">\" | \"=\") SUM.");
        Check.goodLaw("passes if not not (not 1=1)");
        badLaw("passes if not^");
        badLaw("passes if (^)");
        badLaw("passes if (1=1^");
        badLaw("passes if (1=1^]");
        badLaw("passes if 1=1^)");
        badLaw("passes if (1^)=1");
        badLaw("passes if (1=1)^=1");
        badLaw("passes if (1=1)^+1");
        badLaw("passes if 1^");
        badLaw("passes if 1^;passes");
        badLaw("passes if 1 ^and 1=1");
        badLaw("passes if 1 ^! 1");
        badLaw("passes if 1=^");
        badLaw("passes if 1=1^=1");
        badLaw("passes if ^=1");
        badLaw("passes if ^<1");
        badLaw("passes if 1 = ^(1)");
        badLaw("passes if 1 + ^(1) = 1");
        Check.sentence("SUM: TERM {(\"+\" | \"-\") TERM}. TERM: PART {(\"*\" | \"/\" | \"%\") PART}.");
        Check.goodLaw("says 1+2-3*4/5%6");
        badLaw("says 1+^");
        badLaw("says 1*^");
        badLaw("says ^-1");
        badLaw("says 1+^+1");
        badLaw("says 1*^/1");
        badLaw("says 1 ^1");
        badLaw("says 1 ^[1]");
        badLaw("says [1] ^1");
        Check.sentence("PART: NUMBER (to 1,000) | \"[\" SUM \"]\" | a word, as told.");
        badLaw("says [^]");
        badLaw("says [1^");
        badLaw("says [1^)");
        badLaw("says [1^=1]");
        badLaw("says 1^]");
        badLaw("says ^]");
        badLaw("says ^(1)");
        badLaw("says ^xyz");
    }

    private static void faultOfTheEnd() {
        Check.sentence("FAULT: the first TOKEN that can't go on there (the end's: the TEXT's length).");
        badLaw("says^");
        badLaw("says   ^");
        badLaw("says 1+^");
        badLaw("says 1+  ^");
        badLaw("passes if  ^");
        badLaw("passes;  ^");
        badLaw("  ^;  ");
        badLaw("says  ^;");
        badOrders("dig^");
        badOrders("dig 1 ^");
        badOrders("dig 1 by ^");
        badOrders("haul 1 times  ^");
        Check.sentence("-6 (blanks alone: FAULT at the end)");
        badLaw("^");
        badLaw(" ^");
        badLaw(" ".repeat(400) + "^");
        badOrders("^");
        badOrders("    ^");
        badOrders(" ".repeat(400) + "^");
    }

    private static void lawGrammar() {
        Check.sentence("CLAUSE: ((\"says\" | \"loses\" | \"digs\" | \"gives\") SUM | \"passes\") [\"if\" TEST].");
        String[] withSum = {"says", "loses", "digs", "gives"};
        for (String verb : withSum) {
            Check.goodLaw(verb + " 1");
            Check.goodLaw(verb + " 1 if 1=1");
            badLaw(verb + "^");
            badLaw(verb + " ^if 1=1");
            badLaw(verb + "^;passes");
            badLaw("^" + verb + verb + " 1");
        }
        Check.goodLaw("passes");
        Check.goodLaw("passes if 1=1");
        badLaw("passes ^1");
        badLaw("passes ^day");
        badLaw("passes if^");
        badLaw("passes if 1=1 ^if 1=1");
        badLaw("^if 1=1");
        badLaw("^1");
        badLaw("says 1 ^says 2");
        badLaw("says 1 ^times 2");
        String[] ordersVerbs = {"dig", "haul", "hush", "lie"};
        for (String verb : ordersVerbs) {
            badLaw("^" + verb + " 1");
        }
    }

    private static void lawWords() {
        Check.sentence("\"cell\" | \"column\" | \"depth\" | \"kind\" | \"hard\" | \"water\" | \"shaft\" | \"day\" | \"mood\"");
        String[] words = {"cell", "column", "depth", "kind", "hard", "water", "shaft", "day", "mood"};
        for (String word : words) {
            Check.goodLaw("says " + word);
            badLaw("says ^" + word + "s");
            badLaw("says ^" + word.substring(1));
            badLaw("says ^" + word.substring(0, word.length() - 1));
            badLaw("says " + word + " ^1");
        }
        String[] others = {"done", "latest", "at 1", "buckets 1", "says", "if", "or", "and", "not 1", "passes", "by", "in", "times"};
        for (String word : others) {
            badLaw("says ^" + word);
        }
    }

    private static void orderGrammar() {
        Check.sentence("CLAUSE: (\"dig\" SUM \"by\" SUM | \"haul\" SUM | \"hush\" SUM | \"lie\" SUM \"in\" SUM) [\"times\" TIMES] [\"if\" TEST].");
        String[] whole = {"dig 9 by 1", "haul 9", "hush 9", "lie 9 in 1"};
        for (String order : whole) {
            goodOrders(order);
            goodOrders(order + " times 3");
            goodOrders(order + " if 1=2");
            goodOrders(order + " times 3 if 1=2");
            badOrders(order + " if 1=2 ^times 3");
            badOrders(order + " times 3 ^times 3");
            badOrders(order + " if 1=2 ^if 1=2");
            badOrders(order + " times^");
            badOrders(order + " if^");
            badOrders(order + " ^9");
            badOrders(order + " ^by 1");
            badOrders(order + " ^in 1");
        }
        badOrders("dig 9 ^in 1");
        badOrders("dig ^by 1");
        badOrders("dig 9 by^");
        badOrders("dig 9 ^times 2");
        badOrders("dig 9 ^if 1=2");
        badOrders("dig 9^;haul 9");
        badOrders("lie 9 ^by 1");
        badOrders("lie ^in 1");
        badOrders("lie 9 in ^times 2");
        badOrders("haul^");
        badOrders("hush ^times 2");
        badOrders("^times 2");
        badOrders("^by");
        String[] lawVerbs = {"says 1", "loses 1", "digs 1", "gives 1", "passes"};
        for (String verb : lawVerbs) {
            badOrders("^" + verb);
        }
    }

    private static void orderWords() {
        Check.sentence("\"day\" | \"done\" | \"latest\" | \"at\" S | \"buckets\" S | \"column\" L");
        String[] bare = {"day", "done", "latest"};
        for (String word : bare) {
            goodOrders("haul " + word);
            badOrders("haul " + word + " ^1");
            badOrders("haul ^" + word + "s");
        }
        String[] withPlace = {"at", "buckets", "column"};
        for (String word : withPlace) {
            goodOrders("haul " + word + " 0");
            goodOrders("haul " + word + "1+" + word + "2");
            badOrders("haul " + word + "^");
            badOrders("haul " + word + " ^+1");
            badOrders("haul " + word + " ^day");
            badOrders("haul " + word + " ^[1]");
            badOrders("haul " + word + " 1 ^1");
        }
        String[] others = {"cell", "depth", "kind", "hard", "water", "shaft", "mood", "haul", "if", "or", "and", "not 1", "by", "in", "times"};
        for (String word : others) {
            badOrders("haul ^" + word);
        }
    }

    private static void timesAndPlaces() {
        Check.sentence("TIMES: a NUMBER 1 .. 20.");
        goodOrders("haul 9 times 1");
        goodOrders("haul 9 times 20");
        goodOrders("haul 9 times 0020");
        badOrders("haul 9 times ^0");
        badOrders("haul 9 times ^21");
        badOrders("haul 9 times ^1000");
        badOrders("haul 9 times ^1001");
        badOrders("haul 9 times ^day");
        badOrders("haul 9 times ^[1]");
        badOrders("haul 9 times 1^+1");
        Check.sentence("(S: a NUMBER 0 .. 5, L: 0 .. 4)");
        String[] ofShafts = {"at", "buckets"};
        for (String word : ofShafts) {
            goodOrders("haul " + word + " 0");
            goodOrders("haul " + word + " 5");
            goodOrders("haul " + word + " 005");
            badOrders("haul " + word + " ^6");
            badOrders("haul " + word + " ^1000");
            badOrders("haul " + word + " ^1001");
            badOrders("haul " + word + " ^-1");
        }
        goodOrders("haul column 0");
        goodOrders("haul column 4");
        badOrders("haul column ^5");
        badOrders("haul column ^1001");
        badOrders("haul column ^-1");
    }

    private static void lawRoom() {
        Check.sentence("LAWS, 6 at most; one is in FORCE (NONE at first: no CLAUSE)");
        ListenWells x = new ListenWells();
        Check.due("none in force", x.count(14), -1);
        for (int k = 0; k < 6; k++) {
            Check.due("no such yet", x.force(k), -2);
            Check.due("law", Check.law(x, "says " + (30 + k)), k);
            Check.due("laws", x.count(6), k + 1);
        }
        Check.due("a new law is not in force", x.at(0, 4), 20);
        Check.due("a seventh", Check.law(x, "says 1"), -5);
        Check.due("laws", x.count(6), 6);
        Check.due("the last", x.force(5), -1);
        Check.due("it says", x.at(0, 4), 35);
        Check.due("the first", x.force(0), 5);
        Check.due("it says", x.at(0, 4), 30);
        Check.due("no seventh", x.force(6), -2);
        Check.due("none", x.force(-1), 0);
        Check.due("no clause", x.at(0, 4), 20);
    }

    private static void lawEmptiesTheTape() {
        Check.sentence("The TAPE, which is empty then, becomes a LAW: its number.");
        ListenWells x = new ListenWells();
        Check.due("law", Check.law(x, "says 1"), 0);
        Check.due("empty", x.count(8), 0);
        Check.due("nothing is left to be a second one", x.law(), -6);
        Check.due("fault at the end of nothing", x.fault(), 0);
        Check.due("a faulty one", Check.law(x, "says"), -6);
        Check.due("empty as well", x.count(8), 0);
        Check.sentence("-5 (ahead of reading it; the TAPE is empty then, too)");
        for (int k = 1; k < 6; k++) {
            Check.law(x, "says 1");
        }
        Check.law(x, "says 1 1");
        Check.due("fault is of the latest that was read", x.fault(), -1);
        Check.due("empty", x.count(8), 0);
        Check.due("of an empty tape", x.law(), -5);
        Check.due("fault is of the latest that was read", x.fault(), -1);
        Check.orders(x, "haul");
        Check.law(x, "says 1");
        Check.due("a good one was not read either", x.fault(), 4);
    }

    private static void ordersEmptyTheTape() {
        Check.sentence("ORDERS, the TAPE is empty then: how many were run. -3 one can't be; -6 (as for law()).");
        String[] texts = {"haul 9 if 1=2", "haul 9", "haul"};
        int[] due = {0, -3, -6};
        for (int k = 0; k < texts.length; k++) {
            ListenWells x = new ListenWells();
            Check.due("orders", Check.orders(x, texts[k]), due[k]);
            Check.due("empty", x.count(8), 0);
            Check.due("what comes is at its beginning", x.feed(0, 0, 0, 0, 0), 20);
        }
        Check.due("nothing", new ListenWells().orders(), -6);
    }

    private static void faultOfTheLatest() {
        Check.sentence("FAULT of the latest law(), orders() that read a TEXT: its place; NONE without.");
        ListenWells x = new ListenWells();
        Check.due("ahead of any", x.fault(), -1);
        Check.law(x, "says 1;x");
        Check.due("of a law", x.fault(), 7);
        Check.orders(x, "haul");
        Check.due("of orders", x.fault(), 4);
        Check.orders(x, "haul 9");
        Check.due("orders that can't be run have none", x.fault(), -1);
        Check.law(x, "says 1;x");
        Check.law(x, "says 1");
        Check.due("a law without", x.fault(), -1);
        Check.law(x, "x");
        x.row();
        x.force(9);
        x.undo();
        Check.tape(x, "abc");
        x.row();
        x.image(0);
        x.back(0);
        Check.due("others leave it", x.fault(), 0);
    }

    private static void stoppedOfTheLatest() {
        Check.sentence("Which CLAUSE of the latest orders() could not be. NONE.");
        ListenWells x = new ListenWells();
        x.listener(0, 0);
        Check.due("ahead of any", x.stopped(), -1);
        for (int k = 0; k < 12; k++) {
            Check.orders(x, "lie 0 in 1;".repeat(k) + "lie 0 in 8" + ";lie 0 in 2".repeat(11 - k));
            Check.due("the clause", x.stopped(), k);
        }
        Check.law(x, "x");
        x.back(1);
        Check.due("others leave it", x.stopped(), 11);
        Check.orders(x, "lie 0 in 3");
        Check.due("all could be", x.stopped(), -1);
        Check.orders(x, "lie 0 in 4;lie 0 in 8 if 1=2;lie 0 in 9");
        Check.due("one that is not run counts as a clause", x.stopped(), 2);
        Check.orders(x, "lie 0 in 4 times 5;lie 0 in done + 2 times 9");
        Check.due("the times are one clause", x.stopped(), 1);
    }

    private static void force() {
        Check.sentence("A LAW is in FORCE (NONE: none): which was. -2.");
        ListenWells x = new ListenWells();
        Check.due("none, none", x.force(-1), -1);
        Check.law(x, "says 1");
        int[] bad = {-2, 1, 6, Integer.MIN_VALUE, Integer.MAX_VALUE};
        for (int law : bad) {
            Check.due("no such", x.force(law), -2);
        }
        Check.due("was none", x.force(0), -1);
        for (int law : bad) {
            Check.due("no such", x.force(law), -2);
            Check.due("stays", x.count(14), 0);
        }
        Check.due("was the first", x.force(0), 0);
        Check.due("was the first", x.force(-1), 0);
        Check.due("none", x.count(14), -1);
    }
}
