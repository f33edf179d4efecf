/** Promises 1 to 5. */
final class BrookTests {
    private BrookTests() { }

    static void all(Check check) {
        check.test("1 a new object", BrookTests::newObject);
        check.test("2 brook: what is taken", BrookTests::textsThatAreTaken);
        check.test("2 brook: the first fault", BrookTests::firstFaults);
        check.test("2 brook: refusals and faults", BrookTests::brookRefused);
        check.test("2 brook: all anew", BrookTests::allAnew);
        check.test("3 ofCell", BrookTests::ofCell);
        check.test("4 guard", BrookTests::guard);
        check.test("5 water", BrookTests::water);
    }

    private static void newObject(Check check) {
        BrookStones x = new BrookStones();
        for (int what = 0; what <= 6; what++) {
            check.due("many(" + what + ")", x.many(what), 0);
        }
        check.due("trace()", x.trace(), 0);
        check.due("fault()", x.fault(), 0);
        for (int k = 0; k < 4; k++) {
            check.due("lose(" + k + ")", x.lose(k), 0);
            check.due("put(" + k + ", 0, 1)", x.put(k, 0, 1), -11);
        }
        check.due("ofCell(0, 0)", x.ofCell(0, 0), -1);
        check.due("stands(0, 0)", x.stands(0, 0), -3);
        check.due("orders(1)", x.orders(1), -3);
        check.due("plan(1, 0, 0, -1)", x.plan(1, 0, 0, -1), -3);
        check.due("plan(1, 0, 0, 0)", x.plan(1, 0, 0, 0), -1);
    }

    private static void textsThatAreTaken(Check check) {
        String[] texts = {"d345;b012;p3", "d0000;b9999;p0", "d12345;b54321;p9", "d999999;b000000;p1", "d3456789;b0123456;p3"};
        for (String text : texts) {
            BrookStones x = new BrookStones();
            int cells = text.indexOf(';') - 1;
            check.due("brook by " + text, Brooks.read(x, text), cells);
            check.due("many(0)", x.many(0), cells);
            for (int c = 0; c < cells; c++) {
                check.due("depth of " + c, x.ofCell(c, 0), text.charAt(1 + c) - '0');
                check.due("bed of " + c, x.ofCell(c, 1), text.charAt(cells + 3 + c) - '0');
            }
        }
        BrookStones x = new BrookStones();
        Brooks.write(x, 1, 2, 7, 7, 'd', '1', '2', '3', ';', 'b', '4', '5', '6', ';', 'p', '7', 7);
        check.due("brook(1, 2, 2, 12)", x.brook(1, 2, 2, 12), 3);
        check.due("depth of 2", x.ofCell(2, 0), 3);
        x.stone(0, 9, 9, 0);
        x.set(0, 0);
        check.due("PACE: dug(0, 0, 1)", x.dug(0, 0, 1), 3);
        Brooks.write(x, 2, 0, 'd' + 256, '1', '2', '3', ';', 'b', '4', '5', '6', ';', 'p', '7');
        check.due("brook by bytes that are cut", x.brook(2, 0, 0, 12), 3);
        Brooks.write(x, 2, 1, 'd' + 256, '1', '2', '3', ';', 'b', '4', '5', '6', ';', 'p', '7');
        check.due("brook by shorts that are not", x.brook(2, 1, 0, 12), -100);
    }

    private static void firstFaults(Check check) {
        Object[][] faults = {
            {"", 0}, {"x", 0}, {"D345;b012;p3", 0}, {"345", 0}, {"d", 1}, {"d;", 1}, {"d3", 2}, {"d34", 3}, {"d34;", 3},
            {"d345", 4}, {"d345x", 4}, {"d345:", 4}, {"d345/", 4}, {"d34567", 6}, {"d3456789", 8}, {"d34567890", 8},
            {"d3456789;", 9}, {"d345;", 5}, {"d345;p", 5}, {"d345;b", 6}, {"d345;b;", 6}, {"d345;b01", 8},
            {"d345;b01;p3", 8}, {"d345;b012", 9}, {"d345;b0123", 9}, {"d345;b012p", 9}, {"d345;b012;", 10},
            {"d345;b012;b", 10}, {"d345;b012;p", 11}, {"d345;b012;p;", 11}, {"d345;b012;p33", 12}, {"d345;b012;p3 ", 12},
            {"d3456789;b012345", 16}, {"d3456789;b01234567;p3", 17}, {"d3456789;b0123456;p", 19}, {"d345;b012;p3;p3", 12}
        };
        for (Object[] row : faults) {
            BrookStones x = new BrookStones();
            check.due("brook by " + row[0], Brooks.read(x, (String) row[0]), -100 - (Integer) row[1]);
            check.due("fault()", x.fault(), 0);
            check.due("many(0)", x.many(0), 0);
        }
    }

    private static void brookRefused(Check check) {
        BrookStones x = new BrookStones();
        check.due("brook(-1, 3, 0, 0)", x.brook(-1, 3, 0, 0), -1);
        check.due("brook(4, 0, 0, 0)", x.brook(4, 0, 0, 0), -1);
        check.due("brook(0, 3, 0, 0)", x.brook(0, 3, 0, 0), -2);
        check.due("brook(0, -1, 0, 0)", x.brook(0, -1, 0, 0), -2);
        check.due("brook(0, 0, -1, -1)", x.brook(0, 0, -1, -1), -11);
        check.due("fault()", x.fault(), 1);
        Brooks.write(x, 0, 1, "d345;b012;p3".chars().toArray());
        check.due("brook(0, 0, -1, -1)", x.brook(0, 0, -1, -1), -12);
        check.due("fault()", x.fault(), 2);
        check.due("brook(0, 1, -1, -1)", x.brook(0, 1, -1, -1), -14);
        check.due("fault()", x.fault(), 4);
        int[][] beyond = {{-1, 3}, {0, 13}, {1, 12}, {12, 1}, {13, 0}, {-1, 0}, {Integer.MAX_VALUE, Integer.MAX_VALUE}, {1, Integer.MAX_VALUE}};
        for (int[] row : beyond) {
            check.due("brook(0, 1, " + row[0] + ", " + row[1] + ")", x.brook(0, 1, row[0], row[1]), -13);
            check.due("fault()", x.fault(), 3);
        }
        check.due("brook(0, 1, 12, 0)", x.brook(0, 1, 12, 0), -100);
        check.due("fault()", x.fault(), 0);
        x.brook(0, 1, 13, 0);
        check.due("brook(0, 3, 0, 0)", x.brook(0, 3, 0, 0), -2);
        check.due("fault() of a refused call", x.fault(), 0);
        check.due("many(0)", x.many(0), 0);
    }

    private static void allAnew(Check check) {
        BrookStones x = Brooks.five();
        x.set(0, 0);
        x.walker(2);
        x.guard(1, true);
        x.water(5);
        x.tell(0);
        Brooks.write(x, 1, 2, 77);
        check.due("a text with a fault", Brooks.read(x, "d345;"), -105);
        int[] was = {5, 4, 1, 1, 0, 1, 5};
        for (int what = 0; what <= 6; what++) {
            check.due("many(" + what + ") as before", x.many(what), was[what]);
        }
        x.flood(9, 30);
        check.due("a text", Brooks.read(x, "d3456;b0123;p3"), 4);
        int[] is = {4, 0, 0, 0, 0, 0, 0};
        for (int what = 0; what <= 6; what++) {
            check.due("many(" + what + ") anew", x.many(what), is[what]);
        }
        check.due("trace()", x.trace(), 1);
        check.due("cell(1, 0, 2)", x.cell(1, 0, 2), 77);
        for (int c = 0; c < 4; c++) {
            check.due("ofCell(" + c + ", 2)", x.ofCell(c, 2), -9);
            check.due("ofCell(" + c + ", 3)", x.ofCell(c, 3), 0);
        }
        check.due("ofCell(4, 0)", x.ofCell(4, 0), -1);
        check.due("stone 0", x.ofStone(0, 5), -1);
        check.due("stride(0)", x.stride(0), -1);
        check.due("stone(0, 9, 1, 0)", x.stone(0, 9, 1, 0), 0);
        check.due("it lies", x.ofStone(0, 5), -9);
    }

    private static void ofCell(Check check) {
        BrookStones x = Brooks.five();
        x.set(1, 2);
        x.guard(2, true);
        long[] due = {5, 1, 1, 1, 3};
        for (int what = 0; what < 5; what++) {
            check.due("ofCell(2, " + what + ")", x.ofCell(2, what), due[what]);
        }
        x.water(4);
        check.due("TOP by WATER 4", x.ofCell(2, 4), -1);
        long[] other = {3, 0, -9, 0, -99};
        for (int what = 0; what < 5; what++) {
            check.due("ofCell(3, " + what + ")", x.ofCell(3, what), other[what]);
        }
        check.due("ofCell(2, -1)", x.ofCell(2, -1), -2);
        check.due("ofCell(2, 5)", x.ofCell(2, 5), -2);
        check.due("ofCell(-1, 5)", x.ofCell(-1, 5), -1);
        check.due("ofCell(5, 0)", x.ofCell(5, 0), -1);
        check.due("ofCell(MIN, 0)", x.ofCell(Integer.MIN_VALUE, 0), -1);
    }

    private static void guard(Check check) {
        BrookStones x = Brooks.five();
        check.due("guard(1, false)", x.guard(1, false), 0);
        check.due("guard(1, true)", x.guard(1, true), 1);
        check.due("guard(1, true)", x.guard(1, true), 0);
        check.due("guard(4, true)", x.guard(4, true), 1);
        check.due("many(5)", x.many(5), 2);
        check.due("ofCell(1, 3)", x.ofCell(1, 3), 1);
        check.due("ofCell(0, 3)", x.ofCell(0, 3), 0);
        check.due("guard(1, false)", x.guard(1, false), 1);
        check.due("ofCell(1, 3)", x.ofCell(1, 3), 0);
        check.due("guard(-1, true)", x.guard(-1, true), -1);
        check.due("guard(5, true)", x.guard(5, true), -1);
        check.due("guard(32, true)", x.guard(32, true), -1);
        check.due("many(5)", x.many(5), 1);
    }

    private static void water(Check check) {
        BrookStones x = Brooks.five();
        check.due("water(9)", x.water(9), 0);
        check.due("water(10)", x.water(10), -2);
        check.due("water(-1)", x.water(-1), -2);
        check.due("many(6)", x.many(6), 9);
        check.due("water(0)", x.water(0), 9);
        check.due("water(3)", x.water(3), 0);
        check.due("many(6)", x.many(6), 3);
        BrookStones none = new BrookStones();
        check.due("water(0) without a brook", none.water(0), -3);
        check.due("water(10) without a brook", none.water(10), -2);
    }
}
