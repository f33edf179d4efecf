/** Promise 22: each sentence that names a boundary, in a test of its own. */
final class EdgesOfPlans {
    private static final String THREE = "text d000;b000;p0 = 3\n";
    private static final String FIVE = "text d00000;b00000;p0 = 5\n";
    private static final String SIX = "text d000000;b000000;p0 = 6\n";
    private static final String SEVEN = "text d0000000;b0000000;p0 = 7\n";
    private static final String SIX_ALIKE = """
        stone 0 1 1 0 = 0
        stone 0 1 1 0 = 1
        stone 0 1 1 0 = 2
        stone 0 1 1 0 = 3
        stone 0 1 1 0 = 4
        stone 0 1 1 0 = 5
        """;

    private EdgesOfPlans() { }

    static void all(Check check) {
        outside(check);
        unknown(check);
        noneNeeded(check);
        leastWork(check);
        ofSeveral(check);
        whichStones(check);
        byWater(check);
        byTables(check);
        byTablesBehindFloods(check);
        floodIsLookedAt(check);
        whatStandsBehind(check);
    }

    /** A PLAN by STRIDE, f and ROUNDS: its WORK, how many STONES, its row. */
    private static String plan(String numbers, int work, int many, int... row) {
        StringBuilder lines = new StringBuilder();
        lines.append("plan ").append(numbers).append(" -1 = ").append(work).append('\n');
        lines.append("plan ").append(numbers).append(" -2 = ").append(many).append('\n');
        for (int q = 0; q < row.length; q++) {
            lines.append("plan ").append(numbers).append(' ').append(q).append(" = ").append(row[q]).append('\n');
        }
        return lines.toString();
    }

    /** There is no PLAN: NONE for each q that there is. */
    private static String noPlan(String numbers, int cells) {
        int[] row = new int[cells];
        java.util.Arrays.fill(row, -9);
        return plan(numbers, -9, -9, row);
    }

    private static void outside(Check check) {
        String wrong = """
            plan 0 0 0 Q = -2 !
            plan 10 0 0 Q = -2 !
            plan -1 0 0 Q = -2 !
            plan MIN 0 0 Q = -2 !
            plan MAX 0 0 Q = -2 !
            plan 1 -1 0 Q = -2 !
            plan 1 10 0 Q = -2 !
            plan 1 MIN 5 Q = -2 !
            plan 1 MAX 5 Q = -2 !
            plan 1 0 -1 Q = -2 !
            plan 1 0 31 Q = -2 !
            plan 1 0 MIN Q = -2 !
            plan 1 0 MAX Q = -2 !
            plan 0 10 31 Q = -2 !
            """;
        Script.test(check, "22 plan: OUTSIDE: STRIDES are 1 .. 9, f 0 .. 9, ROUNDS 0 .. 30", THREE, wrong.replace("Q", "-1"), wrong.replace("Q", "0"),
                "plan 1 0 0 -1 = NONE", "plan 9 0 0 -1 = 0", "plan 9 9 30 -1 = 0", "plan 1 9 30 -1 = NONE");
        Script.test(check, "22 plan: OUTSIDE is ahead of UNKNOWN", THREE, wrong.replace("Q", "-3"), wrong.replace("Q", "3"));
        Script.test(check, "22 plan: OUTSIDE is ahead of STATE and of UNKNOWN without a BROOK", wrong.replace("Q", "-1"), wrong.replace("Q", "0"),
                wrong.replace("Q", "-3"));
        Script.test(check, "22 plan: f is OUTSIDE also if no FLOOD is looked at", THREE, "plan 9 10 0 -1 = -2 !", "plan 9 -1 0 -1 = -2 !",
                "plan 9 9 0 -1 = 0", "plan 9 0 0 -1 = 0");
    }

    private static void unknown(Check check) {
        Script.test(check, "22 plan: UNKNOWN: q is -2 .. 2 of three CELLS", THREE, "stone 0 1 1 0 = 0",
                "plan 2 0 0 -3 = -1 !", "plan 2 0 0 -2 = 1", "plan 2 0 0 -1 = 2", "plan 2 0 0 0 = NONE", "plan 2 0 0 1 = 0", "plan 2 0 0 2 = NONE",
                "plan 2 0 0 3 = -1 !", "plan 2 0 0 NONE = -1 !", "plan 2 0 0 MIN = -1 !", "plan 2 0 0 MAX = -1 !");
        Script.test(check, "22 plan: UNKNOWN: q is -2 .. 6 of seven CELLS", SEVEN, "plan 8 0 0 6 = NONE", "plan 8 0 0 7 = -1 !", "plan 8 0 0 -3 = -1 !",
                "plan 8 0 0 -2 = 0");
        Script.test(check, "22 plan: UNKNOWN also if there is no PLAN", THREE, "plan 1 0 0 -3 = -1 !", "plan 1 0 0 3 = -1 !", "plan 1 0 0 2 = NONE");
        Script.test(check, "22 plan: STATE: there is no BROOK; UNKNOWN is ahead of it", "plan 9 0 0 -1 = -3 !", "plan 9 9 30 -2 = -3 !",
                "plan 1 0 1 -1 = -3 !", "plan 9 0 0 0 = -1 !", "plan 9 0 0 -3 = -1 !", "plan 9 0 0 6 = -1 !");
    }

    private static void noneNeeded(Check check) {
        Script.test(check, "22 plan: none: WORK 0, no STONES, NONE in each CELL", THREE, plan("4 0 0", 0, 0, -9, -9, -9), plan("9 9 30", 0, 0, -9, -9, -9),
                noPlan("3 0 0", 3), noPlan("3 0 1", 3), noPlan("1 0 0", 3));
        Script.test(check, "22 plan: none is better than any STONE", THREE, SIX_ALIKE, "set 0 0 = 1", plan("4 0 0", 0, 0, -9, -9, -9),
                plan("3 0 0", 1, 1, 0, -9, -9));
        Script.test(check, "22 plan: none of seven CELLS", SEVEN, plan("8 0 0", 0, 0, -9, -9, -9, -9, -9, -9, -9), noPlan("7 0 0", 7));
    }

    private static void leastWork(Check check) {
        Script.test(check, "22 plan: one STONE: where it is least WORK of those that are near enough", THREE, "stone 0 1 1 0 = 0",
                plan("3 0 0", 1, 1, 0, -9, -9), plan("2 0 0", 2, 1, -9, 0, -9), noPlan("1 0 0", 3));
        Script.test(check, "22 plan: the heavier one nearer", THREE, "stone 0 1 1 0 = 0", "stone 0 1 2 0 = 1", "stone 0 1 3 0 = 2",
                plan("1 0 0", 10, 3, 2, 1, 0), plan("2 0 0", 2, 1, -9, 0, -9));
        Script.test(check, "22 plan: all six STONES, the first row", SIX, SIX_ALIKE, plan("1 0 0", 21, 6, 0, 1, 2, 3, 4, 5),
                plan("2 0 0", 9, 3, 0, -9, 1, -9, 2, -9), plan("7 0 0", 0, 0, -9, -9, -9, -9, -9, -9), plan("6 0 0", 1, 1, 0, -9, -9, -9, -9, -9));
        Script.test(check, "22 plan: six STONES are too few for seven CELLS by 1", SEVEN, SIX_ALIKE, noPlan("1 0 0", 7),
                plan("2 0 0", 12, 3, -9, 0, -9, 1, -9, 2, -9), plan("3 0 0", 7, 2, -9, 0, -9, -9, 1, -9, -9));
        Script.test(check, "22 plan: none twice", FIVE, "stone 0 1 1 0 = 0", "stone 0 1 9 9 = 1", plan("2 0 0", 103, 2, -9, 1, -9, 0, -9),
                "flood 0 0 = 0", "text d00000;b00000;p0 = 5", "stone 0 1 1 0 = 0", noPlan("2 0 0", 5));
        Script.test(check, "22 plan: where it lies counts", THREE, "stone 0 1 2 9 = 0", "stone 0 1 9 0 = 1", plan("2 0 0", 18, 1, -9, 1, -9),
                plan("3 0 0", 9, 1, 1, -9, -9));
        Script.test(check, "22 plan: two light ones are less WORK than a heavy one", FIVE, "stone 0 1 9 0 = 0", "stone 0 1 1 0 = 1", "stone 0 1 1 0 = 2",
                plan("3 0 0", 3, 1, -9, -9, 1, -9, -9), plan("2 0 0", 6, 2, -9, 1, -9, 2, -9), "text d00900;b00000;p0 = 5", "stone 0 10 9 0 = 0",
                "stone 0 1 1 0 = 1", "stone 0 1 1 0 = 2", plan("3 0 0", 5, 2, 1, -9, -9, 2, -9));
    }

    private static void ofSeveral(Check check) {
        Script.test(check, "22 plan: of least WORK that of the fewest STONES", "text d00900;b00000;p0 = 5", "stone 0 1 1 0 = 0", "stone 0 1 1 0 = 1",
                "stone 0 10 1 2 = 2", plan("3 0 0", 5, 1, -9, -9, 2, -9, -9));
        Script.test(check, "22 plan: of those the first as a row: the least number first", FIVE, SIX_ALIKE, plan("2 0 0", 6, 2, -9, 0, -9, 1, -9),
                plan("3 0 0", 3, 1, -9, -9, 0, -9, -9), plan("5 0 0", 1, 1, 0, -9, -9, -9, -9));
        Script.test(check, "22 plan: none counts as 9: a STONE in an earlier CELL is ahead", "text d900;b000;p0 = 3", "stone 0 5 2 0 = 0",
                "stone 0 10 2 1 = 1", plan("3 0 0", 4, 1, 1, -9, -9));
        Script.test(check, "22 plan: the last number of six is ahead of none", "text d900;b000;p0 = 3", "stone 0 5 2 0 = 0", "stone 0 1 9 9 = 1",
                "stone 0 1 9 9 = 2", "stone 0 1 9 9 = 3", "stone 0 1 9 9 = 4", "stone 0 10 2 1 = 5", plan("3 0 0", 4, 1, 5, -9, -9));
        Script.test(check, "22 plan: of two alike the first, of unlike ones the lighter", THREE, "stone 0 1 2 0 = 0", "stone 0 1 1 0 = 1",
                "stone 0 1 1 0 = 2", plan("2 0 0", 2, 1, -9, 1, -9), "set 1 0 = 1", "flood 1 1 = 1", plan("2 0 0", 2, 1, -9, 2, -9));
    }

    private static void whichStones(Check check) {
        Script.test(check, "22 plan: those that lie and those that are SET, wherever", THREE, "stone 0 1 1 0 = 0", "stone 0 1 2 0 = 1", "set 0 2 = 1",
                "set 1 1 = 1", plan("2 0 0", 2, 1, -9, 0, -9), "set 0 NONE = 1", plan("2 0 0", 2, 1, -9, 0, -9));
        Script.test(check, "22 plan: not those that are GONE", THREE, "stone 0 1 1 0 = 0", "stone 0 1 2 0 = 1", "set 0 1 = 1", "flood 9 30 = 1",
                plan("2 0 0", 4, 1, -9, 1, -9), "set 1 1 = 1", "flood 9 30 = 1", noPlan("2 0 0", 3), plan("4 0 0", 0, 0, -9, -9, -9));
        Script.test(check, "22 plan: how many STONES does not count those that are GONE", THREE, SIX_ALIKE, "set 0 0 = 1", "set 1 1 = 1", "set 2 2 = 1",
                "flood 9 30 = 3", plan("1 0 0", 6, 3, 3, 4, 5), plan("2 0 0", 2, 1, -9, 3, -9), plan("4 0 0", 0, 0, -9, -9, -9));
    }

    private static void byWater(Check check) {
        Script.test(check, "22 plan: by DRY STONES: DEPTH of each CELL", "text d050;b000;p0 = 3", "stone 0 5 1 0 = 0", noPlan("2 0 0", 3),
                "stone 0 6 1 1 = 1", plan("2 0 0", 3, 1, -9, 1, -9), plan("3 0 0", 1, 1, 0, -9, -9));
        Script.test(check, "22 plan: by WATER as it is", THREE, "stone 0 1 1 0 = 0", "stone 0 10 2 0 = 1", plan("2 0 0", 2, 1, -9, 0, -9), "water 1 = 0",
                plan("2 0 0", 4, 1, -9, 1, -9), "water 9 = 1", plan("2 0 0", 4, 1, -9, 1, -9), "set 1 1 = 1", "flood 9 30 = 1", noPlan("2 0 0", 3));
        Script.test(check, "22 plan: without a PAIL", THREE, "stone 0 1 1 0 = 0", plan("2 0 0", 2, 1, -9, 0, -9), plan("4 0 0", 0, 0, -9, -9, -9));
    }

    private static void byTables(Check check) {
        Script.test(check, "22 plan: a TABLE is thrice the WORK", THREE, "stone 2 1 1 0 = 0", plan("2 0 0", 3, 1, 0, -9, -9),
                plan("1 0 0", 6, 1, -9, 0, -9), "stone 1 1 2 0 = 1", plan("2 0 0", 3, 1, 0, -9, -9), "stone 0 1 1 0 = 2", plan("2 0 0", 2, 1, -9, 2, -9));
        Script.test(check, "22 plan: EASE of both STONES", SIX, "stone 2 1 1 0 = 0", "stone 2 1 1 0 = 1", plan("1 0 0", 21, 2, -9, 0, -9, -9, 1, -9),
                plan("2 0 0", 15, 2, 0, -9, -9, 1, -9, -9), "text d0000000;b0000000;p0 = 7", "stone 2 1 1 0 = 0", "stone 2 1 1 0 = 1",
                noPlan("1 0 0", 7));
    }

    private static void byTablesBehindFloods(Check check) {
        Script.test(check, "22 plan: EASE behind a FLOOD", THREE, "stone 2 1 1 0 = 0", plan("1 1 3", 6, 1, -9, 0, -9), noPlan("1 1 4", 3), plan("2 1 3", 3, 1, 0, -9, -9),
                "set 0 1 = 1", plan("1 1 1", 6, 1, -9, 0, -9));
        Script.test(check, "22 plan: EASE of both behind a FLOOD", SIX, "stone 2 1 1 0 = 0", "stone 2 1 1 0 = 1", plan("1 1 3", 21, 2, -9, 0, -9, -9, 1, -9),
                noPlan("1 1 4", 6), plan("2 1 1", 15, 2, 0, -9, -9, 1, -9, -9));
        Script.test(check, "22 plan: a FLAT has no EASE, neither does a STONE, behind a FLOOD, too", THREE, "stone 1 1 1 0 = 0", "stone 0 1 9 0 = 1", noPlan("1 0 0", 3),
                noPlan("1 0 1", 3), plan("2 0 1", 2, 1, -9, 0, -9), plan("2 1 1", 2, 1, -9, 0, -9));
        Script.test(check, "22 plan: one comes to each STONE of it: a light one that is too far does not do for a TABLE", "text d9009;b0000;p0 = 4",
                "stone 0 1 1 0 = 0", "stone 2 20 1 0 = 1", "stone 2 20 9 0 = 2", plan("1 0 0", 36, 2, 2, -9, 1, -9), plan("1 1 3", 36, 2, 2, -9, 1, -9),
                noPlan("1 1 4", 4));
    }

    private static void floodIsLookedAt(Check check) {
        Script.test(check, "22 plan: no FLOOD is looked at by 0 ROUNDS, one is by 1", THREE, "stone 0 1 1 0 = 0", plan("2 9 0", 2, 1, -9, 0, -9),
                noPlan("2 9 1", 3), noPlan("2 1 1", 3), plan("2 0 1", 2, 1, -9, 0, -9), plan("2 0 30", 2, 1, -9, 0, -9));
        Script.test(check, "22 plan: of f: 0, and 9 above BED 8, not above BED 9", "text d000;b898;p0 = 3", "stone 0 1 1 0 = 0",
                plan("3 0 30", 1, 1, 0, -9, -9), plan("3 8 30", 1, 1, 0, -9, -9), plan("3 9 30", 2, 1, -9, 0, -9), plan("3 9 0", 1, 1, 0, -9, -9));
        Script.test(check, "22 plan: ROUND by ROUND as HOLD bears it", THREE, "stone 0 1 1 0 = 0", "stone 0 1 2 0 = 1", "stone 0 1 3 0 = 2",
                "stone 1 1 1 9 = 3", plan("2 1 1", 4, 1, -9, 1, -9), plan("2 1 2", 6, 1, -9, 2, -9), plan("2 1 3", 11, 1, -9, 3, -9), noPlan("2 1 4", 3),
                plan("3 1 3", 10, 1, 3, -9, -9));
    }

    private static void whatStandsBehind(Check check) {
        Script.test(check, "22 plan: those beside one another dig more", THREE, "stone 0 1 1 0 = 0", "stone 0 1 2 0 = 1", "stone 0 1 3 0 = 2",
                plan("1 0 0", 10, 3, 2, 1, 0), noPlan("1 0 1", 3), plan("2 0 1", 2, 1, -9, 0, -9));
        Script.test(check, "22 plan: the row is another one behind a FLOOD", THREE, "stone 0 1 2 0 = 0", "stone 0 1 2 0 = 1", "stone 0 1 3 0 = 2",
                plan("1 0 0", 13, 3, 2, 0, 1), plan("1 0 1", 14, 3, 0, 2, 1), noPlan("1 0 2", 3));
        Script.test(check, "22 plan: half of it, if the CELL is GUARDED", THREE, "stone 0 1 1 0 = 0", noPlan("2 1 30", 3), "guard 1 true = 1",
                plan("2 1 30", 2, 1, -9, 0, -9), noPlan("2 2 1", 3), "guard 1 false = 1", "guard 0 true = 1", noPlan("2 1 30", 3),
                plan("3 1 30", 1, 1, 0, -9, -9), "guard 0 false = 1", "guard 2 true = 1", plan("3 1 30", 3, 1, -9, -9, 0));
        Script.test(check, "22 plan: what is SET now digs beside none of the row", THREE, "stone 0 1 1 0 = 0", "stone 0 1 9 9 = 1", "set 1 0 = 1",
                plan("2 0 30", 2, 1, -9, 0, -9), "set 0 1 = 1", plan("2 0 30", 2, 1, -9, 0, -9));
        Script.test(check, "22 plan: PACE and BED", "text d000;b010;p1 = 3", "stone 0 1 1 0 = 0", plan("3 0 0", 1, 1, 0, -9, -9),
                plan("3 0 1", 2, 1, -9, 0, -9), plan("2 0 30", 2, 1, -9, 0, -9), noPlan("2 1 1", 3));
    }
}
