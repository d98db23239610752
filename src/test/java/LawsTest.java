/** Promises 3, 14, 15, 19: what SUMS, TESTS, LAWS come to. */
public final class LawsTest {
    public static void main(String[] args) {
        sums();
        tests();
        broken();
        words();
        lastThatHolds();
        asks();
        Check.end("LawsTest");
    }

    private static void sum(String sum, int due) {
        Check.due(sum, Check.column(sum), due);
    }

    private static void test(String test, boolean so) {
        ListenWells x = new ListenWells();
        Check.due("law '" + test + "'", Check.law(x, "says 50 if " + test), 0);
        x.force(0);
        Check.due(test, x.at(0, 4), so ? 50 : 20);
    }

    private static void sums() {
        sum("1 + 2 * 3", 7);
        sum("[1 + 2] * 2", 6);
        sum("9 - 3 - 2", 4);
        sum("100 / 5 / 4", 5);
        sum("100 / [5 / 4] / 20", 5);
        sum("17 % 10 % 4", 3);
        sum("7 / 2", 3);
        sum("[0 - 7] / 2 + 5", 2);
        sum("[0 - 7] % 4 + 5", 2);
        sum("7 % [0 - 4]", 3);
        sum("2 * 3 % 4", 2);
        sum("20 % 7 * 1", 6);
        sum("0 - 1", -3);
        sum("8", -3);
        sum("1000 * 1000 * 1000 / 1000 / 1000 / 500", 2);
        sum("[0 - 1000] * 1000 * 1000 / 1000 / 1000 / 500 + 3", 1);
        sum("1000 * 1000 * 1000 + 1 - 1000 * 1000 * 1000", -3);
        sum("[0 - 1000] * 1000 * 1000 - 1 + 1000 * 1000 * 1000", -3);
        sum("1000 * 1000 * 1000 * 2 / 1000 / 1000 / 1000", -3);
        sum("1 / 0", -3);
        sum("1 % 0", -3);
        sum("0 * [1 / 0]", -3);
    }

    private static void tests() {
        test("1 < 2", true);
        test("2 < 2", false);
        test("2 > 1", true);
        test("2 > 2", false);
        test("2 = 2", true);
        test("2 = 1", false);
        test("not 2 = 1", true);
        test("not not 2 = 1", false);
        test("not (2 = 1)", true);
        test("1 = 1 or 1 = 2 and 1 = 2", true);
        test("(1 = 1 or 1 = 2) and 1 = 2", false);
        test("1 = 2 and 1 = 2 or 1 = 1", true);
        test("1 = 2 and (1 = 2 or 1 = 1)", false);
        test("not 1 = 2 and 1 = 2", false);
        test("not (1 = 2 and 1 = 2)", true);
        test("1 = 2 or 1 = 2 or 1 = 1", true);
        test("1 = 1 and 1 = 1 and 1 = 2", false);
        test("1 = 1 and 1 = 1 and 1 = 1", true);
        test("1 = 2 or 1 = 1 and 1 = 1 or 1 = 2", true);
        test("not not not 1 = 2 or 1 = 2", true);
        test("not 1 = 1 or 1 = 2", false);
        test("not 1 = 1 or not 1 = 2", true);
        test("not (not 1 = 1) and 1 = 1", true);
    }

    private static void broken() {
        test("1 / 0 = 1", false);
        test("not 1 / 0 = 1", false);
        test("1 = 1 or 1 / 0 = 1", true);
        test("1 / 0 = 1 or 1 = 1", false);
        test("1 = 2 or 1 / 0 = 1", false);
        test("not (1 = 2 and 1 / 0 = 1)", true);
        test("not (1 = 1 and 1 / 0 = 1)", false);
        test("not (1 / 0 = 1 and 1 = 2)", false);
        test("1 = 1 or 1 = 1 and 1 / 0 = 1", true);
        test("1 = 2 and 1 / 0 = 1 or 1 = 1", true);
        test("1 = 1 or 1 / 0 = 1 or 1 % 0 = 2", true);
        test("1 = 2 and 1 / 0 = 1 and 1 % 0 = 2 or 1 = 1", true);
        ListenWells x = new ListenWells();
        Check.law(x, "says 30;says 40 / depth;says 60 if 1 / depth = 1 and 1 % [depth - 1] = 0");
        x.force(0);
        Check.due("both later ones are BROKEN", x.at(0, 4), 30);
        Check.due("the last is BROKEN", x.at(8, 4), 40);
        Check.due("the last is not so", x.at(16, 4), 20);
    }

    private static void words() {
        ListenWells x = new ListenWells();
        String law = "says cell;loses column;digs depth + 1;gives shaft";
        Check.law(x, law);
        x.force(0);
        x.put(29, 2, 99);
        x.sink(0);
        x.sink(1);
        x.sink(2);
        Check.due("cell", x.at(29, 4), 29);
        Check.due("column", x.at(29, 5), 5);
        Check.due("depth", x.asks(1, 29, 0), 4);
        Check.due("shaft", x.asks(2, 29, 2), 2);
        Check.law(x, "says kind;loses hard;digs water;gives day");
        x.force(1);
        x.put(29, 0, 2);
        x.put(29, 1, 7);
        x.terms(0, 61);
        x.terms(2, 8);
        Check.due("kind", x.at(29, 4), 2);
        Check.due("hard", x.at(29, 5), 7);
        Check.due("water", x.asks(1, 29, 0), 99);
        Check.due("day", x.asks(2, 29, 2), 61);
        Check.law(x, "says mood;loses shaft + 5;digs shaft + 10;passes if shaft = 1 and kind = 1");
        x.force(2);
        Check.due("mood", x.at(29, 4), 8);
        Check.due("no shaft loses", x.at(29, 5), 4);
        Check.due("digs", x.asks(2, 29, 0), 12);
        x.put(29, 0, 1);
        Check.due("passes", x.asks(1, 29, 1), 1);
        Check.due("passes not", x.asks(2, 29, 1), 0);
        Check.law(x, "says shaft + 9");
        x.force(3);
        Check.due("no shaft says", x.at(29, 4), 8);
    }

    private static void lastThatHolds() {
        ListenWells x = new ListenWells();
        Check.law(x, "says 10;says 11 if depth > 0;says 12 if depth > 1;passes if depth = 1;passes if depth = 3");
        x.force(0);
        Check.due("depth 0", x.at(0, 4), 10);
        Check.due("depth 1", x.at(8, 4), 11);
        Check.due("depth 2", x.at(16, 4), 12);
        x.sink(0);
        for (int depth = 0; depth < 5; depth++) {
            x.put(8 * depth + 4, 0, 1);
            Check.due("any passes that HOLDS", x.asks(0, 8 * depth + 4, 1), depth == 1 || depth == 3 ? 1 : 0);
            Check.due("others always", x.asks(0, 8 * depth + 5, 1), 1);
        }
    }

    private static void asks() {
        ListenWells x = new ListenWells();
        Check.due("no shaft", x.asks(0, 0, 0), -1);
        x.sink(0);
        Check.due("no such shaft", x.asks(1, 0, 0), -1);
        Check.due("no such shaft", x.asks(-1, 0, 0), -1);
        Check.due("no such cell", x.asks(0, 40, 0), -1);
        Check.due("no such cell", x.asks(0, -1, 0), -1);
        Check.due("no such what", x.asks(0, 0, 3), -1);
        Check.due("no such what", x.asks(0, 0, -1), -1);
        x.put(9, 1, 8);
        x.put(9, 2, 4);
        x.put(10, 2, 6);
        Check.due("hard", x.asks(0, 9, 0), 8);
        Check.due("no more than there is", x.asks(0, 9, 2), 4);
        Check.due("5 without", x.asks(0, 10, 2), 5);
        Check.law(x, "digs 0;gives 1000 if cell = 9");
        Check.law(x, "digs 100;gives 0 - 1");
        x.force(0);
        x.put(9, 2, 99);
        Check.due("at least a day", x.asks(0, 9, 0), 1);
        Check.due("at most 99", x.asks(0, 9, 2), 99);
        x.force(1);
        Check.due("at most 99 days", x.asks(0, 9, 0), 99);
        Check.due("at least 0", x.asks(0, 9, 2), 0);
    }
}
