/** Promises 17 to 21. */
final class FloodTests {
    private FloodTests() { }

    static void all(Check check) {
        check.test("17 stands", FloodTests::stands);
        check.test("18 goes", FloodTests::goes);
        check.test("19 dug", FloodTests::dug);
        check.test("20 flood", FloodTests::flood);
        check.test("21 save", FloodTests::save);
    }

    private static void stands(Check check) {
        BrookStones x = Brooks.three();
        // By f 0 the outer ones dig 1 in a ROUND, the one amid 2: it goes in the second.
        int[][] due = {{0, 0, 7}, {0, 1, 7}, {0, 2, 5}, {0, 30, 5}, {1, 0, 7}, {1, 1, 5}, {1, 2, 0}, {2, 1, 0}, {9, 30, 0}, {9, 0, 7}};
        for (int[] row : due) {
            check.due("stands(" + row[0] + ", " + row[1] + ")", x.stands(row[0], row[1]), row[2]);
        }
        check.due("nothing is GONE by it", x.many(4), 0);
        x.guard(1, true);
        check.due("half amid: stands(0, 2)", x.stands(0, 2), 7);
        check.due("half amid: stands(0, 3)", x.stands(0, 3), 0);
        check.due("half of 3, cut: stands(1, 30)", x.stands(1, 30), 2);
        int[][] outside = {{-1, 0}, {10, 0}, {0, -1}, {0, 31}};
        for (int[] row : outside) {
            check.due("stands(" + row[0] + ", " + row[1] + ")", x.stands(row[0], row[1]), -2);
            check.due("without a brook", new BrookStones().stands(row[0], row[1]), -2);
        }
        check.due("without a brook", new BrookStones().stands(0, 0), -3);
        BrookStones kinds = Brooks.by("d000;b010;p0");
        kinds.stone(1, 1, 1, 0);
        kinds.stone(2, 1, 2, 0);
        kinds.set(0, 0);
        kinds.set(1, 2);
        check.due("HOLD 4, 5: stands(1, 3)", kinds.stands(1, 3), 5);
        check.due("HOLD 4, 5: stands(1, 4)", kinds.stands(1, 4), 4);
        check.due("HOLD 4, 5: stands(1, 5)", kinds.stands(1, 5), 0);
        kinds.set(0, 1);
        check.due("BED 1: stands(0, 30)", kinds.stands(0, 30), 2);
    }

    private static void goes(Check check) {
        BrookStones x = Brooks.three();
        int[][] due = {{0, 0, -9}, {1, 0, 2}, {2, 0, -9}, {0, 1, 2}, {1, 1, 1}, {2, 1, 2}, {0, 9, 1}};
        for (int[] row : due) {
            check.due("goes(" + row[0] + ", " + row[1] + ")", x.goes(row[0], row[1]), row[2]);
        }
        x.set(2, -9);
        check.due("no STONE: goes(2, 9)", x.goes(2, 9), -9);
        check.due("goes(3, 10)", x.goes(3, 10), -1);
        check.due("goes(-1, 0)", x.goes(-1, 0), -1);
        check.due("goes(0, 10)", x.goes(0, 10), -2);
        check.due("goes(0, -1)", x.goes(0, -1), -2);
        check.due("no STONE: goes(2, 10)", x.goes(2, 10), -2);
        // 1 a ROUND: the heaviest FLAT goes in the twelfth; two guarded ones dig 0.
        BrookStones y = Brooks.by("d000;b000;p1");
        y.stone(1, 1, 9, 0);
        y.set(0, 0);
        check.due("goes(0, 0)", y.goes(0, 0), 12);
        y.guard(0, true);
        check.due("GUARDED: goes(0, 0)", y.goes(0, 0), -9);
        check.due("GUARDED: goes(0, 1)", y.goes(0, 1), 12);
    }

    private static void dug(Check check) {
        BrookStones x = Brooks.three();
        int[][] due = {
            {0, 0, 0, 0}, {0, 0, 1, 1}, {1, 0, 1, 2}, {0, 0, 2, 2}, {1, 0, 2, 4}, {0, 0, 30, 2}, {1, 0, 30, 4},
            {0, 1, 1, 2}, {0, 1, 2, 3}, {1, 1, 30, 3}, {0, 9, 30, 10}, {1, 9, 30, 11}
        };
        for (int[] row : due) {
            check.due("dug(" + row[0] + ", " + row[1] + ", " + row[2] + ")", x.dug(row[0], row[1], row[2]), row[3]);
        }
        x.set(1, -9);
        check.due("no STONE: dug(1, 9, 30)", x.dug(1, 9, 30), 0);
        check.due("alone: dug(0, 0, 30)", x.dug(0, 0, 30), 0);
        check.due("dug(3, 10, 0)", x.dug(3, 10, 0), -1);
        check.due("dug(-1, 0, 0)", x.dug(-1, 0, 0), -1);
        int[][] outside = {{-1, 0}, {10, 0}, {0, -1}, {0, 31}};
        for (int[] row : outside) {
            check.due("dug(0, " + row[0] + ", " + row[1] + ")", x.dug(0, row[0], row[1]), -2);
        }
        BrookStones y = Brooks.by("d000;b900;p3");
        y.stone(0, 1, 9, 0);
        y.set(0, 0);
        check.due("BED 9 bears 9: dug(0, 6, 30)", y.dug(0, 6, 30), 0);
        check.due("dug(0, 7, 5)", y.dug(0, 7, 5), 5);
        y.guard(0, true);
        check.due("half of 12 is below BED: dug(0, 9, 30)", y.dug(0, 9, 30), 0);
    }

    private static void flood(Check check) {
        BrookStones x = Brooks.three();
        check.due("flood(0, 1)", x.flood(0, 1), 0);
        check.due("what was DUG is not kept: flood(0, 1)", x.flood(0, 1), 0);
        check.due("flood(0, 2)", x.flood(0, 2), 1);
        check.due("ofStone(1, 5)", x.ofStone(1, 5), -5);
        check.due("ofCell(1, 2)", x.ofCell(1, 2), -9);
        check.due("many(1)", x.many(1), 3);
        check.due("many(3)", x.many(3), 2);
        check.due("many(4)", x.many(4), 1);
        check.due("set(1, 1)", x.set(1, 1), -3);
        check.due("flood(0, 30)", x.flood(0, 30), 0);
        check.due("flood(9, 0)", x.flood(9, 0), 0);
        check.due("flood(9, 30)", x.flood(9, 30), 2);
        check.due("flood(9, 30) again", x.flood(9, 30), 0);
        check.due("many(4)", x.many(4), 3);
        int[][] outside = {{-1, 0}, {10, 0}, {0, -1}, {0, 31}};
        for (int[] row : outside) {
            check.due("flood(" + row[0] + ", " + row[1] + ")", x.flood(row[0], row[1]), -2);
            check.due("without a brook", new BrookStones().flood(row[0], row[1]), -2);
        }
        check.due("without a brook", new BrookStones().flood(0, 0), -3);
    }

    private static void save(Check check) {
        BrookStones x = Brooks.five();
        x.set(0, 0);
        x.set(1, 1);
        x.set(2, 3);
        x.set(3, 4);
        x.guard(1, true);
        int[][] due = {{0, 0, 0, 4}, {0, 5, 0, 3}, {2, 5, 0, 2}, {2, 30, 4, 2}, {5, 1, 3, 3}, {5, 2, 4, 2}, {5, 30, 4, 1}};
        for (int[] row : due) {
            check.due("save(" + row[0] + ", " + row[1] + ", 0)", x.save(row[0], row[1], 0), row[2]);
            check.due("save(" + row[0] + ", " + row[1] + ", 1)", x.save(row[0], row[1], 1), row[3]);
        }
        check.due("nothing more is GUARDED", x.many(5), 1);
        int[][] outside = {{-1, 0, 0}, {10, 0, 0}, {0, -1, 0}, {0, 31, 0}, {0, 0, -1}, {0, 0, 2}};
        for (int[] row : outside) {
            check.due("save" + java.util.Arrays.toString(row), x.save(row[0], row[1], row[2]), -2);
            check.due("without a brook", new BrookStones().save(row[0], row[1], row[2]), -2);
        }
        check.due("without a brook", new BrookStones().save(0, 0, 1), -3);
        for (int c = 0; c < 5; c++) {
            x.guard(c, true);
        }
        check.due("all are GUARDED: save(0, 0, 0)", x.save(0, 0, 0), 0);
        check.due("no STONES: the CELL", Brooks.five().save(9, 9, 0), 0);
        check.due("no STONES: how many", Brooks.five().save(9, 9, 1), 0);
    }
}
