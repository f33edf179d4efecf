/** Promises 6 to 16. */
final class StoneTests {
    private StoneTests() { }

    static void all(Check check) {
        check.test("6 stone", StoneTests::stone);
        check.test("7 ofStone", StoneTests::ofStone);
        check.test("8 set", StoneTests::set);
        check.test("9 work", StoneTests::work);
        check.test("10 walker", StoneTests::walker);
        check.test("11 stride", StoneTests::stride);
        check.test("12 can", StoneTests::can);
        check.test("13 way", StoneTests::way);
        check.test("14 highest", StoneTests::highest);
        check.test("15 pass", StoneTests::pass);
        check.test("16 days", StoneTests::days);
        check.test("16 days: refusals and faults", StoneTests::daysRefused);
    }

    private static void stone(Check check) {
        BrookStones x = new BrookStones();
        check.due("stone without a brook", x.stone(2, 20, 9, 9), -3);
        check.due("stone(3, ..) without a brook", x.stone(3, 1, 1, 0), -2);
        Brooks.read(x, "d000;b000;p0");
        int[][] outside = {{-1, 1, 1, 0}, {3, 1, 1, 0}, {0, 0, 1, 0}, {0, 21, 1, 0}, {0, 1, 0, 0}, {0, 1, 10, 0}, {0, 1, 1, -1}, {0, 1, 1, 10}};
        for (int[] s : outside) {
            check.due("stone " + java.util.Arrays.toString(s), x.stone(s[0], s[1], s[2], s[3]), -2);
        }
        check.due("many(1)", x.many(1), 0);
        for (int s = 0; s < 6; s++) {
            check.due("stone " + s, x.stone(s % 3, s % 2 == 0 ? 1 : 20, s % 2 == 0 ? 9 : 1, s % 2 == 0 ? 0 : 9), s);
        }
        check.due("a seventh", x.stone(0, 1, 1, 0), -4);
        check.due("a seventh of no kind", x.stone(3, 1, 1, 0), -2);
        check.due("many(1)", x.many(1), 6);
        x.set(0, 0);
        check.due("flood(9, 30)", x.flood(9, 30), 1);
        check.due("a seventh, one is GONE", x.stone(0, 1, 1, 0), -4);
    }

    private static void ofStone(Check check) {
        BrookStones x = Brooks.five();
        int[][] due = {{0, 6, 3, 1, 3, -9}, {1, 8, 2, 0, 5, -9}, {2, 9, 5, 3, 8, -9}, {0, 4, 9, 9, 9, -9}};
        for (int s = 0; s < 4; s++) {
            for (int what = 0; what < 6; what++) {
                check.due("ofStone(" + s + ", " + what + ")", x.ofStone(s, what), due[s][what]);
            }
        }
        check.due("ofStone(0, 6)", x.ofStone(0, 6), -2);
        check.due("ofStone(0, -1)", x.ofStone(0, -1), -2);
        check.due("ofStone(4, 6)", x.ofStone(4, 6), -1);
        check.due("ofStone(-1, 0)", x.ofStone(-1, 0), -1);
        x.set(1, 4);
        check.due("ofStone(1, 5)", x.ofStone(1, 5), 4);
        x.flood(9, 30);
        check.due("ofStone(1, 5) of one that is GONE", x.ofStone(1, 5), -5);
        check.due("ofStone(1, 4) of one that is GONE", x.ofStone(1, 4), 5);
        check.due("ofStone(0, 5)", x.ofStone(0, 5), -9);
    }

    private static void set(Check check) {
        BrookStones x = Brooks.five();
        check.due("set(0, 0)", x.set(0, 0), 1);
        check.due("set(0, 0) again", x.set(0, 0), -3);
        check.due("set(1, 0) on another", x.set(1, 0), -3);
        check.due("set(0, 4) from another CELL", x.set(0, 4), 1);
        check.due("ofCell(0, 2)", x.ofCell(0, 2), -9);
        check.due("ofCell(4, 2)", x.ofCell(4, 2), 0);
        check.due("set(1, 0)", x.set(1, 0), 1);
        check.due("many(3)", x.many(3), 2);
        check.due("set(0, NONE)", x.set(0, -9), 1);
        check.due("set(0, NONE) again", x.set(0, -9), 1);
        check.due("ofStone(0, 5)", x.ofStone(0, 5), -9);
        check.due("ofCell(4, 2)", x.ofCell(4, 2), -9);
        check.due("many(3)", x.many(3), 1);
        int[][] unknown = {{4, 1}, {-1, 1}, {4, -9}, {0, 5}, {0, -1}, {0, -8}, {0, -10}, {1, 9}};
        for (int[] row : unknown) {
            check.due("set(" + row[0] + ", " + row[1] + ")", x.set(row[0], row[1]), -1);
        }
        x.flood(9, 30);
        check.due("set(1, 0) of one that is GONE", x.set(1, 0), -3);
        check.due("set(1, NONE) of one that is GONE", x.set(1, -9), -3);
        check.due("set(1, 5) of one that is GONE", x.set(1, 5), -1);
        check.due("its CELL is free", x.set(0, 0), 1);
    }

    private static void work(Check check) {
        BrookStones x = Brooks.five();
        int[][] due = {{0, 0, 6}, {0, 4, 18}, {1, 0, 2}, {1, 2, 6}, {2, 0, 60}, {2, 4, 120}, {3, 4, 126}};
        for (int[] row : due) {
            check.due("work(" + row[0] + ", " + row[1] + ")", x.work(row[0], row[1]), row[2]);
        }
        check.due("work(4, 0)", x.work(4, 0), -1);
        check.due("work(-1, 0)", x.work(-1, 0), -1);
        check.due("work(0, 5)", x.work(0, 5), -1);
        check.due("work(0, -1)", x.work(0, -1), -1);
        check.due("work(0, NONE)", x.work(0, -9), -1);
        x.set(0, 0);
        check.due("work(0, 4) of one that is SET", x.work(0, 4), 18);
        x.flood(9, 30);
        check.due("work(0, 4) of one that is GONE", x.work(0, 4), 18);
    }

    private static void walker(Check check) {
        BrookStones x = new BrookStones();
        check.due("walker(9) without a brook", x.walker(9), -3);
        check.due("walker(0) without a brook", x.walker(0), -2);
        Brooks.read(x, "d000;b000;p0");
        check.due("walker(0)", x.walker(0), -2);
        check.due("walker(10)", x.walker(10), -2);
        for (int k = 0; k < 6; k++) {
            check.due("walker " + k, x.walker(k == 0 ? 9 : k), k);
        }
        check.due("a seventh", x.walker(1), -4);
        check.due("a seventh of no STRIDE", x.walker(0), -2);
        check.due("many(2)", x.many(2), 6);
    }

    private static void stride(Check check) {
        BrookStones x = Brooks.five();
        x.walker(9);
        x.walker(1);
        check.due("stride(0)", x.stride(0), 9);
        check.due("stride(1)", x.stride(1), 1);
        check.due("stride(2)", x.stride(2), -1);
        check.due("stride(-1)", x.stride(-1), -1);
    }

    private static void can(Check check) {
        BrookStones x = Brooks.three();
        x.walker(1);
        x.walker(2);
        x.walker(4);
        x.walker(5);
        int[] bare = {1, 1, 1, 1};
        int[] pail = {0, 1, 1, 1};
        int[] wet = {0, 0, 1, 1};
        int[] wetPail = {0, 0, 0, 1};
        for (int w = 0; w < 4; w++) {
            check.due("can(" + w + ", false)", x.can(w, false), bare[w]);
            check.due("can(" + w + ", true)", x.can(w, true), pail[w]);
        }
        x.water(1);
        for (int w = 0; w < 4; w++) {
            check.due("by water: can(" + w + ", false)", x.can(w, false), wet[w]);
            check.due("by water: can(" + w + ", true)", x.can(w, true), wetPail[w]);
        }
        check.due("can(4, true)", x.can(4, true), -1);
        check.due("can(-1, false)", x.can(-1, false), -1);
        // A TABLE's EASE: 2 less 1 on both sides of it; of two beside one another 1 less 2.
        BrookStones y = Brooks.by("d000;b000;p0");
        y.walker(1);
        y.stone(2, 1, 1, 0);
        y.set(0, 1);
        check.due("a TABLE amid: can", y.can(0, false), 1);
        check.due("a TABLE amid: can with a PAIL", y.can(0, true), 0);
        for (int s = 1; s < 3; s++) {
            y.stone(2, 1, 1, 0);
            y.set(s, s == 1 ? 0 : 2);
        }
        check.due("three TABLES: can with a PAIL", y.can(0, true), 1);
        // A FLAT has no EASE.
        BrookStones z = Brooks.by("d000;b000;p0");
        z.walker(1);
        z.stone(1, 1, 1, 0);
        z.set(0, 1);
        check.due("a FLAT amid: can", z.can(0, false), 0);
    }

    private static void way(Check check) {
        BrookStones x = Brooks.three();
        int[][] ways = {{0, 1, 2, 3}, {1, 3}, {0, 3}, {3}};
        for (int w = 0; w < 4; w++) {
            x.walker(w + 1);
            check.due("way(" + w + ", -1)", x.way(w, -1), ways[w].length);
            for (int q = 0; q < 6; q++) {
                check.due("way(" + w + ", " + q + ")", x.way(w, q), q < ways[w].length ? ways[w][q] : -9);
            }
        }
        check.due("way(0, MAX)", x.way(0, Integer.MAX_VALUE), -9);
        check.due("way(0, -2)", x.way(0, -2), -1);
        check.due("way(4, 0)", x.way(4, 0), -1);
        check.due("way(-1, -2)", x.way(-1, -2), -1);
        x.water(1);
        check.due("none: way(2, -1)", x.way(2, -1), -9);
        check.due("none: way(2, 0)", x.way(2, 0), -9);
        check.due("one stride: way(3, 0)", x.way(3, 0), 3);
        BrookStones five = Brooks.five();
        five.set(0, 0);
        five.set(1, 2);
        five.set(2, 3);
        five.walker(2);
        int[] due = {0, 3, 5, -9};
        for (int q = 0; q < 4; q++) {
            check.due("by a TABLE: way(0, " + q + ")", five.way(0, q), due[q]);
        }
    }

    private static void highest(Check check) {
        BrookStones x = Brooks.five();
        x.set(0, 0);
        x.set(1, 2);
        x.set(2, 3);
        int[] strides = {1, 2, 3, 9};
        int[] bare = {-9, 3, 5, 9};
        int[] pail = {-9, -9, 3, 9};
        for (int w = 0; w < 4; w++) {
            x.walker(strides[w]);
            x.water(w * 3);
            check.due("highest(" + w + ", false)", x.highest(w, false), bare[w]);
            check.due("highest(" + w + ", true)", x.highest(w, true), pail[w]);
        }
        check.due("many(6) as before", x.many(6), 9);
        check.due("highest(4, true)", x.highest(4, true), -1);
        check.due("highest(-1, false)", x.highest(-1, false), -1);
        BrookStones low = Brooks.three();
        low.walker(1);
        check.due("highest at WATER 0 alone", low.highest(0, false), 0);
    }

    private static void pass(Check check) {
        BrookStones x = Brooks.five();
        x.set(0, 0);
        x.set(1, 2);
        x.set(2, 3);
        int[] strides = {1, 2, 3, 9};
        for (int stride : strides) {
            x.walker(stride);
        }
        for (int w = 0; w < 4; w++) {
            for (int v = 0; v < 4; v++) {
                check.due("pass(" + w + ", " + v + ")", x.pass(w, v), w == 0 || v == 0 ? 0 : 12);
            }
        }
        x.water(3);
        check.due("a FLAT that is not DRY: pass(1, 2)", x.pass(1, 2), 8);
        x.water(4);
        check.due("one can't: pass(1, 2)", x.pass(1, 2), 0);
        check.due("pass(2, 3)", x.pass(2, 3), 8);
        check.due("pass(4, 0)", x.pass(4, 0), -1);
        check.due("pass(0, 4)", x.pass(0, 4), -1);
        check.due("pass(-1, 0)", x.pass(-1, 0), -1);
    }

    private static void days(Check check) {
        BrookStones x = Brooks.five();
        x.set(0, 0);
        x.set(1, 2);
        x.set(2, 3);
        x.walker(2);
        x.walker(3);
        x.water(7);
        Brooks.write(x, 0, 1, 9, 0, 3, 4, 5, 6, 3, 10);
        check.due("days(0, 0, 1, 0, 7)", x.days(0, 0, 1, 0, 7), 3);
        check.due("days(1, 0, 1, 0, 7)", x.days(1, 0, 1, 0, 7), 5);
        check.due("days(0, 0, 1, 2, 2)", x.days(0, 0, 1, 2, 2), 1);
        check.due("days(0, 0, 1, 8, 0)", x.days(0, 0, 1, 8, 0), 0);
        check.due("days(0, 0, 1, 0, 0)", x.days(0, 0, 1, 0, 0), 0);
        check.due("many(6) as before", x.many(6), 7);
        check.due("fault()", x.fault(), 0);
    }

    private static void daysRefused(Check check) {
        BrookStones x = Brooks.five();
        x.walker(9);
        Brooks.write(x, 0, 1, 0, 9, 10, -1);
        check.due("days(1, 0, 3, 0, 1)", x.days(1, 0, 3, 0, 1), -1);
        check.due("days(0, 4, 3, 0, 1)", x.days(0, 4, 3, 0, 1), -1);
        check.due("days(0, -1, 1, 0, 1)", x.days(0, -1, 1, 0, 1), -1);
        check.due("days(0, 1, 3, 0, 1)", x.days(0, 1, 3, 0, 1), -2);
        check.due("days(0, 1, -1, 0, 1)", x.days(0, 1, -1, 0, 1), -2);
        Object[][] faults = {
            {1, 0, 9, -1, -11}, {0, 0, 9, -1, -12}, {0, 2, 9, -1, -12}, {0, 1, 9, -1, -14}, {0, 1, 5, 0, -13}, {0, 1, 4, 1, -13},
            {0, 1, -1, 1, -13}, {0, 1, 2, 3, -13}, {0, 1, 1, Integer.MAX_VALUE, -13}
        };
        for (Object[] row : faults) {
            int got = x.days(0, (Integer) row[0], (Integer) row[1], (Integer) row[2], (Integer) row[3]);
            check.due("days of " + java.util.Arrays.toString(row), got, (Integer) row[4]);
            check.due("fault()", x.fault(), -10 - (Integer) row[4]);
        }
        check.due("a cell above 9", x.days(0, 0, 1, 0, 3), -2);
        check.due("fault()", x.fault(), 0);
        check.due("a cell below 0", x.days(0, 0, 1, 3, 1), -2);
        check.due("those that are taken are well", x.days(0, 0, 1, 0, 2), 2);
    }
}
