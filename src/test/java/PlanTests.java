/** Promise 22. */
final class PlanTests {
    private PlanTests() { }

    static void all(Check check) {
        check.test("22 plan: least work", PlanTests::leastWork);
        check.test("22 plan: of several", PlanTests::ofSeveral);
        check.test("22 plan: a flood is looked at", PlanTests::behindAFlood);
        check.test("22 plan: which stones", PlanTests::whichStones);
        check.test("22 plan: refusals", PlanTests::refused);
        check.test("the most there can be: seven cells, six stones", PlanTests::theMost);
    }

    /** Five light STONES and a heavy TABLE, in all CELLS but the last one but one. */
    private static void theMost(Check check) {
        BrookStones x = Brooks.by("d0000000;b0000000;p1");
        for (int s = 0; s < 6; s++) {
            x.stone(s == 5 ? 2 : 0, 1, s == 5 ? 9 : 1, 0);
            x.set(s, s == 5 ? 6 : s);
            x.walker(s + 1);
        }
        int[] way = {0, 1, 2, 3, 4, 6, 7};
        check.due("way(0, -1)", x.way(0, -1), 7);
        for (int q = 0; q < 7; q++) {
            check.due("way(0, " + q + ")", x.way(0, q), way[q]);
        }
        check.due("way(0, 7)", x.way(0, 7), -9);
        check.due("stride(5)", x.stride(5), 6);
        check.due("ofStone(5, 5)", x.ofStone(5, 5), 6);
        check.due("pass(0, 5)", x.pass(0, 5), 64);
        check.due("stands(0, 1)", x.stands(0, 1), 64);
        check.due("dug(6, 0, 11)", x.dug(6, 0, 11), 11);
        check.due("goes(6, 0)", x.goes(6, 0), 12);
        check.due("save(0, 12, 0)", x.save(0, 12, 0), 6);
        check.due("fits(64, 11)", x.fits(64, 11), 1);
        check.due("orders(9)", x.orders(9), 720);
        check.due("order(9, 5)", x.order(9, 5), 6);
        check.due("order(9, 6)", x.order(9, 6), -9);
        due(check, x, new int[] {1, 0, 0}, 52, 6, 5, -9, 0, 1, 2, 3, 4);
        due(check, x, new int[] {4, 0, 1}, 81, 1, -9, -9, 5, -9, -9, -9, -9);
        check.due("plan(4, 0, 0, -1)", x.plan(4, 0, 0, -1), 4);
        check.due("flood(0, 12)", x.flood(0, 12), 6);
        due(check, x, new int[] {7, 0, 0}, -9, -9, -9, -9, -9, -9, -9, -9, -9);
    }

    /** A row: the STONE of each CELL, or -9; ahead of them WORK and how many. */
    private static void due(Check check, BrookStones x, int[] ask, int work, int many, int... row) {
        String call = "plan(" + ask[0] + ", " + ask[1] + ", " + ask[2] + ", ";
        check.due(call + "-1)", x.plan(ask[0], ask[1], ask[2], -1), work);
        check.due(call + "-2)", x.plan(ask[0], ask[1], ask[2], -2), many);
        for (int q = 0; q < row.length; q++) {
            check.due(call + q + ")", x.plan(ask[0], ask[1], ask[2], q), row[q]);
        }
    }

    private static BrookStones four() {
        BrookStones x = Brooks.five();
        Brooks.read(x, "d2453;b1210;p2");
        x.stone(0, 6, 3, 1);
        x.stone(1, 8, 2, 0);
        x.stone(2, 9, 5, 3);
        x.stone(0, 4, 9, 9);
        return x;
    }

    private static void leastWork(Check check) {
        BrookStones x = four();
        due(check, x, new int[] {1, 0, 0}, 80, 3, 2, -9, 0, 1);
        due(check, x, new int[] {2, 0, 0}, 12, 2, 0, -9, 1, -9);
        due(check, x, new int[] {3, 0, 0}, 4, 1, -9, 1, -9, -9);
        due(check, x, new int[] {4, 0, 0}, 2, 1, 1, -9, -9, -9);
        due(check, x, new int[] {5, 9, 0}, 0, 0, -9, -9, -9, -9);
        due(check, x, new int[] {2, 2, 3}, 75, 1, -9, 2, -9, -9);
        due(check, x, new int[] {1, 2, 3}, -9, -9, -9, -9, -9, -9);
        due(check, x, new int[] {4, 9, 9}, -9, -9, -9, -9, -9, -9);
        due(check, x, new int[] {9, 9, 30}, 0, 0, -9, -9, -9, -9);
    }

    private static void ofSeveral(Check check) {
        // WORK 6 by one STONE amid, or by two others at both sides of it.
        BrookStones x = Brooks.by("d090;b000;p0");
        x.stone(0, 10, 3, 0);
        x.stone(0, 1, 1, 1);
        x.stone(0, 1, 1, 1);
        due(check, x, new int[] {2, 0, 0}, 6, 1, -9, 0, -9);
        // The two alone: either may be the first.
        BrookStones y = Brooks.by("d090;b000;p0");
        y.stone(0, 1, 1, 1);
        y.stone(0, 1, 1, 1);
        due(check, y, new int[] {2, 0, 0}, 6, 2, 0, -9, 1);
        // WORK 4 by one STONE at 0 or by another one at 1: none counts as 9.
        BrookStones z = Brooks.by("d900;b000;p0");
        z.stone(0, 5, 2, 0);
        z.stone(0, 10, 2, 1);
        due(check, z, new int[] {3, 0, 0}, 4, 1, 1, -9, -9);
    }

    private static void behindAFlood(Check check) {
        BrookStones x = Brooks.by("d000;b000;p0");
        x.stone(0, 1, 1, 0);
        x.stone(1, 1, 1, 0);
        due(check, x, new int[] {2, 1, 0}, 2, 1, -9, 0, -9);
        due(check, x, new int[] {2, 1, 1}, 2, 1, -9, 1, -9);
        due(check, x, new int[] {2, 1, 4}, -9, -9, -9, -9, -9);
        x.guard(1, true);
        due(check, x, new int[] {2, 1, 30}, 2, 1, -9, 0, -9);
        // One that goes may be needed ahead of the flood, so that the other one can stand alone.
        BrookStones y = Brooks.by("d000;b000;p0");
        y.stone(2, 1, 9, 0);
        check.due("a TABLE that stands: plan(1, 2, 5, -1)", y.plan(1, 2, 5, -1), 54);
        check.due("a TABLE that goes: plan(1, 2, 6, -1)", y.plan(1, 2, 6, -1), -9);
    }

    private static void whichStones(Check check) {
        BrookStones x = Brooks.by("d000;b000;p0");
        x.stone(0, 1, 1, 0);
        x.stone(0, 3, 2, 0);
        x.set(0, 2);
        due(check, x, new int[] {2, 0, 0}, 2, 1, -9, 0, -9);
        x.water(1);
        due(check, x, new int[] {2, 0, 0}, 4, 1, -9, 1, -9);
        x.water(3);
        due(check, x, new int[] {2, 0, 0}, -9, -9, -9, -9, -9);
        due(check, x, new int[] {4, 0, 0}, 0, 0, -9, -9, -9);
        x.water(0);
        x.flood(9, 30);
        due(check, x, new int[] {2, 0, 0}, 4, 1, -9, 1, -9);
        check.due("all is as it was: many(3)", x.many(3), 0);
        x.set(1, 0);
        x.plan(2, 0, 0, -1);
        check.due("all is as it was: ofStone(1, 5)", x.ofStone(1, 5), 0);
    }

    private static void refused(Check check) {
        BrookStones x = four();
        int[][] outside = {{0, 0, 0}, {10, 0, 0}, {1, -1, 0}, {1, 10, 0}, {1, 0, -1}, {1, 0, 31}};
        for (int[] row : outside) {
            for (int q = -3; q <= 4; q++) {
                check.due("plan(.., " + q + ")", x.plan(row[0], row[1], row[2], q), -2);
                check.due("without a brook", new BrookStones().plan(row[0], row[1], row[2], q), -2);
            }
        }
        int[] unknown = {-3, 4, -9, Integer.MIN_VALUE, Integer.MAX_VALUE};
        for (int q : unknown) {
            check.due("plan(1, 0, 0, " + q + ")", x.plan(1, 0, 0, q), -1);
            check.due("without a brook", new BrookStones().plan(1, 0, 0, q), -1);
        }
        check.due("without a brook: q 0", new BrookStones().plan(1, 0, 0, 0), -1);
        check.due("without a brook: q -1", new BrookStones().plan(1, 0, 0, -1), -3);
        check.due("without a brook: q -2", new BrookStones().plan(1, 0, 0, -2), -3);
    }
}
