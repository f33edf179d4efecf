/** Promises 23 to 26. */
final class OrderTests {
    private static final long LOST = Long.MIN_VALUE;

    private OrderTests() { }

    static void all(Check check) {
        check.test("23 orders", OrderTests::orders);
        check.test("24 order", OrderTests::order);
        check.test("25 fits", OrderTests::fits);
        check.test("26 odds", OrderTests::odds);
        check.test("26 odds: refusals and faults", OrderTests::oddsRefused);
    }

    private static BrookStones six() {
        BrookStones x = Brooks.by("d000000;b000000;p0");
        for (int s = 0; s < 6; s++) {
            x.stone(0, 1, 1, 0);
            x.set(s, s);
        }
        return x;
    }

    private static void orders(Check check) {
        BrookStones x = Brooks.three();
        int[] due = {1, 4, 6, 6};
        for (int stride = 1; stride <= 4; stride++) {
            check.due("orders(" + stride + ")", x.orders(stride), due[stride - 1]);
        }
        check.due("six: orders(1)", six().orders(1), 1);
        check.due("six: orders(2)", six().orders(2), 76);
        check.due("six: orders(9)", six().orders(9), 720);
        x.water(1);
        check.due("none is stood on: orders(2)", x.orders(2), 0);
        check.due("none is stood on: orders(3)", x.orders(3), 6);
        check.due("none is SET: orders(1)", Brooks.five().orders(1), 1);
        // A TABLE that is not DRY: its EASE counts as it is laid, but it is not stood on.
        BrookStones y = Brooks.by("d090;b000;p0");
        y.stone(2, 5, 1, 0);
        y.set(0, 1);
        check.due("a TABLE: orders(1)", y.orders(1), 1);
        y.stone(0, 5, 1, 0);
        y.set(1, 2);
        check.due("a TABLE, another behind it: orders(1)", y.orders(1), 0);
        check.due("a TABLE, another behind it: orders(2)", y.orders(2), 0);
        check.due("a TABLE, another behind it: orders(3)", y.orders(3), 2);
        BrookStones z = Brooks.by("d000;b000;p0");
        z.stone(2, 5, 1, 0);
        z.set(0, 1);
        z.stone(0, 5, 1, 0);
        z.set(1, 2);
        check.due("from a TABLE: orders(1)", z.orders(1), 1);
        check.due("orders(0)", x.orders(0), -2);
        check.due("orders(10)", x.orders(10), -2);
        check.due("without a brook: orders(0)", new BrookStones().orders(0), -2);
        check.due("without a brook: orders(9)", new BrookStones().orders(9), -3);
    }

    private static void order(Check check) {
        BrookStones x = Brooks.three();
        int[] due = {0, 1, 2, -9, -9};
        for (int q = 0; q < 5; q++) {
            check.due("order(2, " + q + ")", x.order(2, q), due[q]);
        }
        check.due("order(9, 0)", x.order(9, 0), 0);
        check.due("order(2, MAX)", x.order(2, Integer.MAX_VALUE), -9);
        // Cell 0 is too far for all but one that comes by 1: the TABLE has to be the first.
        BrookStones y = Brooks.by("d90000;b00000;p0");
        y.stone(0, 5, 1, 0);
        y.stone(2, 5, 1, 0);
        y.stone(0, 5, 1, 0);
        y.set(0, 4);
        y.set(1, 1);
        y.set(2, 2);
        int[] by1 = {-9, -9, -9};
        int[] by2 = {1, 2, 4};
        for (int q = 0; q < 3; q++) {
            check.due("order(1, " + q + ")", y.order(1, q), by1[q]);
            check.due("order(2, " + q + ")", y.order(2, q), by2[q]);
        }
        y.set(0, 3);
        int[] later = {1, 2, 3, -9};
        for (int q = 0; q < 4; q++) {
            check.due("order(1, " + q + ")", y.order(1, q), later[q]);
        }
        check.due("none is SET: order(1, 0)", Brooks.five().order(1, 0), -9);
        check.due("order(0, -1)", x.order(0, -1), -2);
        check.due("order(10, 0)", x.order(10, 0), -2);
        check.due("order(1, -1)", x.order(1, -1), -1);
        check.due("without a brook: order(1, -1)", new BrookStones().order(1, -1), -1);
        check.due("without a brook: order(1, 0)", new BrookStones().order(1, 0), -3);
    }

    private static void fits(Check check) {
        BrookStones x = Brooks.three();
        int[][] due = {{7, 0, 1023}, {5, 0, 0}, {7, 1, 1}, {5, 1, 2}, {0, 1, 1020}, {5, 30, 1}, {0, 30, 1022}, {1, 30, 0}};
        for (int[] row : due) {
            check.due("fits(" + row[0] + ", " + row[1] + ")", x.fits(row[0], row[1]), row[2]);
        }
        x.guard(1, true);
        check.due("GUARDED: fits(2, 30)", x.fits(2, 30), 2);
        check.due("nothing is GONE", x.many(3), 3);
        int[] outside = {8, 15, -1, Integer.MIN_VALUE, 1 << 30};
        for (int cells : outside) {
            check.due("fits(" + cells + ", 0)", x.fits(cells, 0), -2);
        }
        check.due("fits(7, -1)", x.fits(7, -1), -2);
        check.due("fits(7, 31)", x.fits(7, 31), -2);
        check.due("without a brook: fits(0, 0)", new BrookStones().fits(0, 0), -3);
        check.due("without a brook: fits(1, 0)", new BrookStones().fits(1, 0), -2);
        check.due("without a brook: fits(0, 31)", new BrookStones().fits(0, 31), -2);
    }

    private static void share(Check check, BrookStones x, int x0, int i, int rounds, long upper, long lower) {
        String call = "odds(" + x0 + ", 0, 2, " + i + ", " + rounds + ", ";
        check.due(call + "0)", x.odds(x0, 0, 2, i, rounds, 0), upper);
        check.due(call + "1)", x.odds(x0, 0, 2, i, rounds, 1), lower);
        check.due("fault()", x.fault(), 0);
    }

    private static void odds(Check check) {
        BrookStones x = Brooks.three();
        x.walker(2);
        x.walker(4);
        x.walker(1);
        Brooks.write(x, 0, 2, 99, 3, 1, 4, 0, 0, 0, 0, 0, 0, 0, 99);
        // Behind one ROUND all stand by f 0, the outer ones by f 1, none by more.
        share(check, x, 0, 1, 1, 1, 2);
        share(check, x, 1, 1, 1, 1, 1);
        share(check, x, 2, 1, 1, 3, 8);
        share(check, x, 0, 1, 0, 1, 1);
        share(check, x, 0, 2, 1, 5, 104);
        share(check, x, 0, 0, 30, 99, 107);
        share(check, x, 2, 0, 30, 0, 1);
        x.water(1);
        share(check, x, 0, 1, 0, 0, 1);
        check.due("nothing is GONE", x.many(3), 3);
        x.water(0);
        Brooks.write(x, 0, 2, 0, 99, 99, 99, 99, 99, 99, 99, 99, 99);
        share(check, x, 0, 0, 1, 1, 9);
    }

    private static void oddsRefused(Check check) {
        BrookStones x = Brooks.three();
        x.walker(4);
        Brooks.write(x, 0, 1, 0, 0, 0, 0, 0, 0, 0, 0, 0, 0, 1, 99, 100, 1, 1, 1, 1, 1, 1, 1, 1, 1, 1, -1);
        Object[][] lost = {
            {1, 0, 1, 1, 0, 0, 0}, {-1, 0, 1, 1, 0, 0, 0}, {0, 4, 1, 1, 0, 0, 0}, {0, -1, 1, 1, 0, 0, 0}, {0, 0, 3, 1, 0, 0, 0},
            {0, 1, -1, 1, 0, 0, 0}, {0, 1, 0, 99, 99, 9, 1}, {0, 0, 0, 99, 99, 9, 2}, {0, 0, 2, 1, 0, 0, 2}, {0, 0, 1, 15, 99, 9, 3},
            {0, 0, 1, -1, 0, 0, 3}, {0, 0, 1, 25, 0, 0, 3}, {0, 0, 1, Integer.MAX_VALUE, 0, 0, 3}, {0, 0, 1, 3, 0, 0, 0},
            {0, 0, 1, 14, 0, 0, 0}, {0, 0, 1, 0, 0, 0, 0}, {0, 0, 1, 1, -1, 0, 0}, {0, 0, 1, 1, 31, 0, 0}, {0, 0, 1, 1, 0, -1, 0},
            {0, 0, 1, 1, 0, 2, 0}
        };
        for (Object[] row : lost) {
            long got = x.odds((Integer) row[0], (Integer) row[1], (Integer) row[2], (Integer) row[3], (Integer) row[4], (Integer) row[5]);
            check.due("odds of " + java.util.Arrays.toString(row), got, LOST);
            check.due("fault()", x.fault(), (Integer) row[6]);
        }
        check.due("odds(0, 0, 1, 1, 30, 1)", x.odds(0, 0, 1, 1, 30, 1), 1);
        check.due("odds(0, 0, 1, 2, 30, 1)", x.odds(0, 0, 1, 2, 30, 1), 1);
        check.due("odds(0, 0, 1, 13, 30, 1)", x.odds(0, 0, 1, 13, 30, 1), 1);
    }
}
