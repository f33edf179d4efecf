/** Promises 12 to 16: each sentence that names a boundary, in a test of its own. */
final class EdgesOfWalks {
    private static final String THREE = "text d000;b000;p0 = 3\n";
    private static final String FIVE = "text d00000;b00000;p0 = 5\n";
    private static final String SIX = "text d000000;b000000;p0 = 6\n";
    private static final String SEVEN = "text d0000000;b0000000;p0 = 7\n";
    private static final String NINE_STRIDES = """
        walker 1 = 0
        walker 2 = 1
        walker 3 = 2
        walker 4 = 3
        walker 5 = 4
        walker 6 = 5
        """;

    private EdgesOfWalks() { }

    static void all(Check check) {
        canBare(check);
        canByStones(check);
        canByTables(check);
        way(check);
        wayOfSeveral(check);
        highest(check);
        pass(check);
        passUnknown(check);
        days(check);
        daysRefused(check);
        daysFaults(check);
    }

    /** STONES, all alike, in the CELLS 0 .. many less 1. */
    private static String stonesFrom0(int many, int kind, int height) {
        StringBuilder lines = new StringBuilder();
        for (int s = 0; s < many; s++) {
            lines.append("stone ").append(kind).append(' ').append(height).append(" 1 0 = ").append(s).append('\n');
            lines.append("set ").append(s).append(' ').append(s).append(" = 1\n");
        }
        return lines.toString();
    }

    private static void canBare(Check check) {
        Script.test(check, "12 can: the banks of 3 CELLS are 4 apart", THREE,
                "walker 3 = 0", "walker 4 = 1", "can 0 false = 0", "can 1 false = 1");
        Script.test(check, "12 can: with a PAIL 1 less: the banks of 3 CELLS", THREE,
                "walker 4 = 0", "walker 5 = 1", "can 0 true = 0", "can 1 true = 1");
        Script.test(check, "12 can: the banks of 7 CELLS are 8 apart", SEVEN,
                "walker 7 = 0", "walker 8 = 1", "walker 9 = 2", "can 0 false = 0", "can 1 false = 1", "can 1 true = 0", "can 2 true = 1",
                "can 2 false = 1");
        Script.test(check, "12 can: UNKNOWN: none, then 0 alone", THREE,
                "can 0 false = -1 !", "can 0 true = -1 !", "can -1 false = -1 !", "walker 9 = 0", "can 0 false = 1", "can 0 true = 1",
                "can 1 false = -1 !", "can 1 true = -1 !", "can -1 true = -1 !", "can MIN false = -1 !", "can MAX true = -1 !");
        Script.test(check, "12 can: UNKNOWN: six are 0 .. 5", THREE, NINE_STRIDES,
                "can 5 true = 1", "can 4 true = 1", "can 3 true = 0", "can 3 false = 1", "can 2 false = 0", "can 6 true = -1 !",
                "can 6 false = -1 !");
    }

    private static void canByStones(Check check) {
        Script.test(check, "12 can: DRY is TOP 1 at least: HEIGHT less DEPTH", "text d333;b000;p0 = 3",
                "walker 2 = 0", "stone 0 3 1 0 = 0", "stone 0 4 1 0 = 1", "set 0 1 = 1", "ofCell 1 4 = 0", "can 0 false = 0",
                "set 0 NONE = 1", "set 1 1 = 1", "ofCell 1 4 = 1", "can 0 false = 1");
        Script.test(check, "12 can: DRY is TOP 1 at least: HEIGHT less DEPTH less WATER", "text d393;b000;p0 = 3",
                "walker 2 = 0", "stone 0 19 1 0 = 0", "set 0 1 = 1", "water 9 = 0", "can 0 false = 1", "stone 0 18 1 0 = 1",
                "set 0 NONE = 1", "set 1 1 = 1", "can 0 false = 0", "water 8 = 9", "can 0 false = 1");
        Script.test(check, "12 can: only by STONES that are SET", THREE,
                "walker 2 = 0", "stone 0 1 1 1 = 0", "can 0 false = 0", "set 0 1 = 1", "can 0 false = 1", "set 0 NONE = 1", "can 0 false = 0",
                "set 0 1 = 1", "flood 9 30 = 1", "can 0 false = 0");
        Script.test(check, "12 can: to each STONE and from it no farther than the STRIDE", FIVE, NINE_STRIDES,
                "stone 0 1 1 0 = 0", "set 0 1 = 1", "can 2 false = 0", "can 3 false = 1", "can 3 true = 0", "can 4 true = 1", "set 0 0 = 1",
                "can 3 false = 0", "can 4 false = 1", "set 0 4 = 1", "can 3 false = 0", "can 4 false = 1", "set 0 3 = 1", "can 3 false = 1",
                "can 2 false = 0", "set 0 2 = 1", "can 2 false = 1", "can 2 true = 0", "can 1 false = 0");
        Script.test(check, "12 can: six STONES, one CELL left out", SEVEN, NINE_STRIDES, stonesFrom0(6, 0, 1),
                "can 0 false = 0", "can 1 false = 1", "can 1 true = 0", "can 2 true = 1", "set 5 6 = 1", "can 0 false = 0", "can 1 false = 1",
                "set 0 NONE = 1", "can 1 false = 1", "set 1 NONE = 1", "can 1 false = 0", "can 2 false = 1");
        Script.test(check, "12 can: a STONE in each CELL, by 1", SIX, NINE_STRIDES, stonesFrom0(6, 0, 1),
                "can 0 false = 1", "can 0 true = 0", "water 1 = 0", "can 0 false = 0", "can 5 false = 0");
    }

    private static void canByTables(Check check) {
        Script.test(check, "12 can: a TABLE's EASE: 1 less to it, 1 less from it", THREE, NINE_STRIDES,
                "stone 2 1 1 0 = 0", "set 0 1 = 1", "can 0 false = 1", "can 0 true = 0", "can 1 true = 1", "set 0 0 = 1", "can 0 false = 0",
                "can 1 false = 1", "set 0 2 = 1", "can 0 false = 0", "can 1 false = 1");
        Script.test(check, "12 can: a FLAT has no EASE, a STONE none", THREE, NINE_STRIDES,
                "stone 1 1 1 0 = 0", "set 0 1 = 1", "can 0 false = 0", "can 1 false = 1", "can 1 true = 0", "stone 0 1 1 0 = 1",
                "set 0 NONE = 1", "set 1 1 = 1", "can 0 false = 0", "can 1 false = 1", "can 1 true = 0");
        Script.test(check, "12 can: EASE of both STONES", "text d0000;b0000;p0 = 4", NINE_STRIDES,
                "stone 2 1 1 0 = 0", "stone 2 1 1 0 = 1", "stone 0 1 1 0 = 2", "set 0 0 = 1", "set 1 3 = 1", "can 0 false = 1",
                "can 0 true = 0", "set 1 NONE = 1", "set 2 3 = 1", "can 0 false = 0", "can 1 false = 1", "set 0 NONE = 1", "set 2 0 = 1",
                "set 1 3 = 1", "can 0 false = 0", "can 1 false = 1");
        Script.test(check, "12 can: a TABLE that is not DRY has no EASE", THREE, NINE_STRIDES,
                "stone 2 1 1 0 = 0", "set 0 1 = 1", "water 1 = 0", "can 1 false = 0", "can 2 false = 0", "can 3 false = 1");
        Script.test(check, "12 can: STRIDE 1 with a PAIL goes 0 far: by TABLES at the banks alone", THREE, "walker 1 = 0",
                stonesFrom0(3, 2, 1), "can 0 true = 1", "stone 0 1 1 0 = 3", "set 1 NONE = 1", "set 3 1 = 1", "can 0 true = 1",
                "set 0 NONE = 1", "set 3 0 = 1", "set 1 1 = 1", "can 0 true = 0", "can 0 false = 1");
        Script.test(check, "12 can: two STONES beside one another are 1 apart, by 0 too far", "text d0000;b0000;p0 = 4", "walker 1 = 0",
                "stone 2 1 1 0 = 0", "stone 2 1 1 0 = 1", "stone 0 1 1 0 = 2", "stone 0 1 1 0 = 3", "set 0 0 = 1", "set 2 1 = 1", "set 3 2 = 1",
                "set 1 3 = 1", "can 0 true = 0", "can 0 false = 1");
    }

    private static void way(Check check) {
        Script.test(check, "13 way: one stride: the far bank alone", THREE, "walker 4 = 0",
                "way 0 -1 = 1", "way 0 0 = 3", "way 0 1 = NONE", "way 0 MAX = NONE");
        Script.test(check, "13 way: as many strides as there are: six STONES, seven strides", SIX, "walker 1 = 0", stonesFrom0(6, 0, 1),
                "way 0 -1 = 7", "way 0 0 = 0", "way 0 1 = 1", "way 0 4 = 4", "way 0 5 = 5", "way 0 6 = 6", "way 0 7 = NONE", "way 0 8 = NONE");
        Script.test(check, "13 way: it can't: NONE for each q", THREE, "walker 3 = 0",
                "way 0 -1 = NONE", "way 0 0 = NONE", "way 0 3 = NONE", "way 0 MAX = NONE", "way 0 -2 = -1 !");
        Script.test(check, "13 way: it can't: it comes to STONES, but not across", SEVEN, "walker 2 = 0", stonesFrom0(5, 0, 1),
                "way 0 -1 = NONE", "way 0 0 = NONE");
        Script.test(check, "13 way: UNKNOWN: q -2, while -1 is none", THREE, "walker 4 = 0",
                "way 0 -2 = -1 !", "way 0 -1 = 1", "way 0 NONE = -1 !", "way 0 MIN = -1 !");
        Script.test(check, "13 way: UNKNOWN: WALKERS are 0 .. 5", THREE, NINE_STRIDES,
                "way 6 -1 = -1 !", "way 6 0 = -1 !", "way -1 -1 = -1 !", "way 5 0 = 3", "way MIN 0 = -1 !", "way MAX 0 = -1 !", "way 6 -2 = -1 !",
                "way -1 -2 = -1 !");
        Script.test(check, "13 way: UNKNOWN: no WALKER at all", THREE, "way 0 -1 = -1 !", "way 0 0 = -1 !");
        Script.test(check, "13 way: without a PAIL", THREE, "walker 2 = 0", "stone 0 1 1 0 = 0", "set 0 1 = 1", "can 0 true = 0",
                "way 0 -1 = 2", "way 0 0 = 1", "way 0 1 = 3");
        Script.test(check, "13 way: by DRY STONES alone", FIVE, "walker 3 = 0", "stone 0 1 1 0 = 0", "stone 0 9 1 0 = 1", "stone 0 9 1 0 = 2",
                "set 0 2 = 1", "set 1 1 = 1", "set 2 3 = 1", "way 0 -1 = 2", "way 0 0 = 2", "water 1 = 0", "way 0 -1 = 3", "way 0 0 = 1",
                "way 0 1 = 3", "way 0 2 = 5");
    }

    private static void wayOfSeveral(Check check) {
        Script.test(check, "13 way: of several the first as a row of PLACES", FIVE, NINE_STRIDES, stonesFrom0(5, 0, 1), """
            way 0 -1 = 6
            way 1 -1 = 3
            way 1 0 = 1
            way 1 1 = 3
            way 1 2 = 5
            way 2 -1 = 2
            way 2 0 = 2
            way 2 1 = 5
            way 3 -1 = 2
            way 3 0 = 1
            way 3 1 = 5
            way 4 -1 = 2
            way 4 0 = 0
            way 4 1 = 5
            way 5 -1 = 1
            way 5 0 = 5
            way 5 1 = NONE
            """);
        Script.test(check, "13 way: the first row, not the farthest strides first", SIX, "walker 3 = 0", stonesFrom0(6, 0, 1),
                "way 0 -1 = 3", "way 0 0 = 0", "way 0 1 = 3", "way 0 2 = 6", "way 0 3 = NONE");
        Script.test(check, "13 way: fewer strides are ahead of a row that is ahead", FIVE, "walker 4 = 0", stonesFrom0(1, 0, 1),
                "stone 0 1 1 0 = 1", "stone 0 1 1 0 = 2", "set 1 3 = 1", "set 2 4 = 1", "way 0 -1 = 2", "way 0 0 = 3", "way 0 1 = 5");
        Script.test(check, "13 way: a TABLE spares a stride", FIVE, "walker 2 = 0", "stone 2 1 1 0 = 0", "stone 0 1 1 0 = 1",
                "stone 0 1 1 0 = 2", "set 1 0 = 1", "set 0 2 = 1", "set 2 4 = 1", "way 0 -1 = 2", "way 0 0 = 2", "way 0 1 = 5");
        Script.test(check, "13 way: a FLAT, a STONE in its place spare none", FIVE, "walker 2 = 0", "stone 1 1 1 0 = 0", "stone 0 1 1 0 = 1",
                "stone 0 1 1 0 = 2", "stone 0 1 1 0 = 3", "set 1 0 = 1", "set 0 2 = 1", "set 2 4 = 1", "way 0 -1 = 4", "way 0 0 = 0", "way 0 1 = 2",
                "way 0 2 = 4", "set 0 NONE = 1", "set 3 2 = 1", "way 0 -1 = 4");
        Script.test(check, "13 way: EASE of both: from TABLE to TABLE", SIX, "walker 2 = 0", "stone 2 1 1 0 = 0",
                "stone 2 1 1 0 = 1", "stone 0 1 1 0 = 2", "set 0 0 = 1", "set 2 2 = 1", "set 1 4 = 1", "way 0 -1 = 3", "way 0 0 = 0", "way 0 1 = 4", "way 0 2 = 6",
                "stone 2 1 1 0 = 3", "set 3 1 = 1", "way 0 -1 = 3", "way 0 0 = 0", "way 0 1 = 4");
    }

    private static void highest(Check check) {
        Script.test(check, "14 highest: 0 .. 9: HEIGHT less 1, 9 at most", THREE, "walker 2 = 0", """
            stone 0 1 1 0 = 0
            stone 0 2 1 0 = 1
            stone 0 9 1 0 = 2
            stone 0 10 1 0 = 3
            stone 0 11 1 0 = 4
            stone 0 20 1 0 = 5
            set 0 1 = 1
            highest 0 false = 0
            set 0 NONE = 1
            set 1 1 = 1
            highest 0 false = 1
            set 1 NONE = 1
            set 2 1 = 1
            highest 0 false = 8
            set 2 NONE = 1
            set 3 1 = 1
            highest 0 false = 9
            set 3 NONE = 1
            set 4 1 = 1
            highest 0 false = 9
            set 4 NONE = 1
            set 5 1 = 1
            highest 0 false = 9
            highest 0 true = NONE
            """);
        Script.test(check, "14 highest: NONE: by no WATER, not by 0", "text d010;b000;p0 = 3", "walker 2 = 0", "stone 0 1 1 0 = 0",
                "highest 0 false = NONE", "set 0 1 = 1", "highest 0 false = NONE", "stone 0 2 1 0 = 1", "set 0 NONE = 1", "set 1 1 = 1",
                "highest 0 false = 0");
        Script.test(check, "14 highest: without a STONE: 9 or NONE", THREE, "walker 3 = 0", "walker 4 = 1", "walker 5 = 2",
                "highest 0 false = NONE", "highest 1 false = 9", "highest 1 true = NONE", "highest 2 true = 9", "highest 0 true = NONE");
        Script.test(check, "14 highest: WATER as it is does not matter, and stays", THREE, "walker 2 = 0", "stone 0 5 1 0 = 0", "set 0 1 = 1",
                "water 9 = 0", "highest 0 false = 4", "many 6 = 9", "water 4 = 9", "can 0 false = 1", "water 5 = 4", "can 0 false = 0",
                "highest 0 false = 4");
        Script.test(check, "14 highest: the lowest of those that it needs", FIVE, "walker 3 = 0", "walker 4 = 1", "stone 0 9 1 0 = 0",
                "stone 0 4 1 0 = 1", "stone 0 6 1 0 = 2", "set 0 1 = 1", "set 1 2 = 1", "set 2 3 = 1", "highest 0 false = 5",
                "highest 1 false = 8", "highest 1 true = 5", "highest 0 true = 5", "set 0 NONE = 1", "highest 0 false = 3");
        Script.test(check, "14 highest: UNKNOWN: WALKERS are 0 .. 5", THREE, "highest 0 false = -1 !", "highest 0 true = -1 !", NINE_STRIDES,
                "highest -1 false = -1 !", "highest 6 false = -1 !", "highest 6 true = -1 !", "highest MIN true = -1 !",
                "highest MAX false = -1 !", "highest 5 true = 9", "highest 0 false = NONE");
    }

    private static void pass(Check check) {
        Script.test(check, "15 pass: none, one and three CELLS: a STONE, a FLAT, a TABLE", THREE, "walker 9 = 0", "walker 8 = 1",
                "pass 0 1 = 0", "stone 0 1 1 0 = 0", "stone 1 1 1 0 = 1", "stone 2 1 1 0 = 2", "stone 1 1 1 0 = 3", "set 0 0 = 1",
                "pass 0 1 = 0", "set 1 1 = 1", "pass 0 1 = 2", "set 2 2 = 1", "pass 0 1 = 6", "set 0 NONE = 1", "set 3 0 = 1", "pass 0 1 = 7");
        Script.test(check, "15 pass: six of seven CELLS, the first and the last", SEVEN, "walker 2 = 0", "walker 9 = 1", stonesFrom0(6, 1, 1),
                "pass 0 1 = 63", "set 5 6 = 1", "pass 0 1 = 95", "set 0 NONE = 1", "pass 0 1 = 94");
        Script.test(check, "15 pass: a FLAT that is not DRY is none", "text d012;b000;p0 = 3", "walker 4 = 0", "walker 4 = 1",
                stonesFrom0(3, 1, 3), "pass 0 1 = 7", "water 1 = 0", "pass 0 1 = 3", "water 2 = 1", "pass 0 1 = 1", "water 3 = 2", "pass 0 1 = 0");
        Script.test(check, "15 pass: both come to it from both banks: one can't", FIVE, "walker 3 = 0", "walker 4 = 1", "walker 5 = 2",
                "stone 1 1 1 0 = 0", "set 0 1 = 1", "pass 1 2 = 2", "pass 0 1 = 0", "pass 1 0 = 0", "pass 0 0 = 0", "pass 2 2 = 2",
                "set 0 3 = 1", "pass 1 2 = 8", "pass 0 2 = 0", "set 0 2 = 1", "pass 0 2 = 4", "pass 0 0 = 4");
        Script.test(check, "15 pass: one from the near bank alone, one from the far bank alone are not enough", SEVEN, "walker 3 = 0",
                "walker 9 = 1", "stone 1 1 1 0 = 0", "stone 1 1 1 0 = 1", "set 0 1 = 1", "set 1 6 = 1", "pass 0 1 = 0", "pass 0 0 = 0",
                "pass 1 1 = 66", "set 1 4 = 1", "pass 0 1 = 18", "pass 1 0 = 18");
        Script.test(check, "15 pass: one with itself", THREE, "walker 2 = 0", "walker 1 = 1", stonesFrom0(3, 1, 1), "pass 0 0 = 7",
                "pass 1 1 = 7", "set 1 NONE = 1", "pass 0 0 = 5", "pass 1 1 = 0");
        Script.test(check, "15 pass: without PAILS", THREE, "walker 2 = 0", "stone 1 1 1 0 = 0", "set 0 1 = 1", "can 0 true = 0", "pass 0 0 = 2");
    }

    private static void passUnknown(Check check) {
        Script.test(check, "15 pass: UNKNOWN: the first, the second, both", THREE, "pass 0 0 = -1 !", NINE_STRIDES, """
            pass 5 5 = 0
            pass 5 6 = -1 !
            pass 6 5 = -1 !
            pass 6 6 = -1 !
            pass -1 0 = -1 !
            pass 0 -1 = -1 !
            pass -1 -1 = -1 !
            pass MIN 0 = -1 !
            pass 0 MAX = -1 !
            """);
    }

    private static final String BY_FIVE = THREE + "walker 2 = 0\nstone 0 5 1 0 = 0\nset 0 1 = 1\n";

    private static String sixty() {
        StringBuilder lines = new StringBuilder("row 0 1");
        for (int i = 0; i < 60; i++) {
            lines.append(' ').append(i % 10);
        }
        return lines.append(" = 1\n").toString();
    }

    private static void days(Check check) {
        Script.test(check, "16 days: no day, one day, all 60", BY_FIVE, sixty(),
                "days 0 0 1 0 0 = 0", "days 0 0 1 60 0 = 0", "days 0 0 1 4 1 = 1", "days 0 0 1 5 1 = 0", "days 0 0 1 0 60 = 30",
                "days 0 0 1 59 1 = 0", "days 0 0 1 54 6 = 1", "days 0 0 1 0 59 = 30", "days 0 0 1 1 59 = 29");
        Script.test(check, "16 days: WATER of each: those taken alone, from i on", BY_FIVE, "row 1 2 9 4 5 0 9 = 1",
                "days 0 1 2 0 5 = 2", "days 0 1 2 1 1 = 1", "days 0 1 2 2 1 = 0", "days 0 1 2 1 3 = 2", "days 0 1 2 2 3 = 1");
        Script.test(check, "16 days: WATER as it is does not matter, and stays", BY_FIVE, "row 1 2 9 4 5 0 9 = 1", "water 8 = 0",
                "days 0 1 2 0 5 = 2", "many 6 = 8", "days 0 1 2 4 1 = 0", "many 6 = 8", "can 0 false = 0");
        Script.test(check, "16 days: without a PAIL", BY_FIVE, "row 1 2 0 4 = 1", "can 0 true = 0", "days 0 1 2 0 2 = 2");
        Script.test(check, "16 days: one who needs no STONE, one who never can", THREE, "walker 4 = 0", "walker 3 = 1", "row 2 0 0 9 5 = 1",
                "days 0 2 0 0 3 = 3", "days 1 2 0 0 3 = 0");
        Script.test(check, "16 days: of a row of nothing", BY_FIVE, "sheet 3 0 0 = 1", "days 0 3 0 0 0 = 0", "days 0 3 0 0 1 = -13 !3");
    }

    private static void daysRefused(Check check) {
        Script.test(check, "16 days: UNKNOWN: WALKERS are 0 .. 5, SHEETS 0 .. 3", THREE, NINE_STRIDES, "row 0 0 5 = 1", "row 3 0 5 = 1", """
            days -1 0 0 0 1 = -1 !0
            days 6 0 0 0 1 = -1 !0
            days MAX 0 0 0 1 = -1 !0
            days 5 -1 0 0 1 = -1 !0
            days 5 4 0 0 1 = -1 !0
            days 5 MIN 0 0 1 = -1 !0
            days 6 4 0 0 1 = -1 !0
            days 5 0 0 0 1 = 1
            days 5 3 0 0 1 = 1
            days 0 3 0 0 1 = 0
            """);
        Script.test(check, "16 days: OUTSIDE: SORTS are 0 .. 2", BY_FIVE, "row 0 0 4 = 1", "row 1 2 4 = 1",
                "days 0 0 -1 0 1 = -2 !0", "days 0 0 3 0 1 = -2 !0", "days 0 0 MIN 0 1 = -2 !0", "days 0 0 0 0 1 = 1", "days 0 1 2 0 1 = 1");
        Script.test(check, "16 days: OUTSIDE: a cell is 0 .. 9, of those that are taken", BY_FIVE, "row 0 2 0 9 10 0 -1 9 MIN MAX = 1", """
            days 0 0 2 0 2 = 1
            days 0 0 2 0 3 = -2 !0
            days 0 0 2 2 1 = -2 !0
            days 0 0 2 3 1 = 1
            days 0 0 2 3 2 = -2 !0
            days 0 0 2 4 1 = -2 !0
            days 0 0 2 5 1 = 0
            days 0 0 2 6 1 = -2 !0
            days 0 0 2 7 1 = -2 !0
            days 0 0 2 2 0 = 0
            """);
        Script.test(check, "16 days: two at once: the first that is told", BY_FIVE, "row 0 1 4 10 = 1", """
            days 1 4 3 9 -1 = -1 !0
            days 1 0 3 0 1 = -1 !0
            days 0 4 3 0 1 = -1 !0
            days 1 1 0 0 1 = -1 !0
            days 0 4 0 0 -1 = -1 !0
            days 0 1 3 0 1 = -2 !0
            days 0 0 3 0 -1 = -2 !0
            days 0 0 3 9 1 = -2 !0
            days 0 0 2 0 -1 = -12 !2
            days 0 0 2 3 0 = -12 !2
            days 0 0 2 1 1 = -12 !2
            days 0 1 0 0 -1 = -11 !1
            days 0 1 0 9 1 = -11 !1
            days 0 0 1 3 -1 = -14 !4
            days 0 0 1 -1 -1 = -14 !4
            days 0 0 1 1 2 = -13 !3
            days 0 0 1 1 1 = -2 !0
            """);
    }

    private static void daysFaults(Check check) {
        Script.test(check, "16 days: CAST: each SORT but its own; nothing is no CAST", BY_FIVE, "row 0 0 4 = 1", "row 1 1 4 = 1", "row 2 2 4 = 1", """
            lose 3 = 1
            days 0 0 0 0 1 = 1
            days 0 0 1 0 1 = -12 !2
            days 0 0 2 0 1 = -12 !2
            days 0 1 0 0 1 = -12 !2
            days 0 1 1 0 1 = 1
            days 0 1 2 0 1 = -12 !2
            days 0 2 0 0 1 = -12 !2
            days 0 2 1 0 1 = -12 !2
            days 0 2 2 0 1 = 1
            days 0 3 0 0 1 = -11 !1
            days 0 3 1 0 0 = -11 !1
            days 0 3 2 0 0 = -11 !1
            """);
        Script.test(check, "16 days: SIZE: n below 0, but not 0", BY_FIVE, "row 0 1 4 4 = 1",
                "days 0 0 1 0 -1 = -14 !4", "days 0 0 1 0 MIN = -14 !4", "days 0 0 1 2 -2 = -14 !4", "days 0 0 1 0 0 = 0");
        Script.test(check, "16 days: INDEX: i is 0 .. how many there are, and all cells are there", BY_FIVE, "row 0 1 4 4 = 1", """
            days 0 0 1 -1 0 = -13 !3
            days 0 0 1 0 0 = 0
            days 0 0 1 2 0 = 0
            days 0 0 1 3 0 = -13 !3
            days 0 0 1 0 2 = 2
            days 0 0 1 0 3 = -13 !3
            days 0 0 1 1 1 = 1
            days 0 0 1 1 2 = -13 !3
            days 0 0 1 2 1 = -13 !3
            days 0 0 1 -1 1 = -13 !3
            days 0 0 1 MIN 0 = -13 !3
            days 0 0 1 MAX 0 = -13 !3
            days 0 0 1 1 MAX = -13 !3
            days 0 0 1 MAX MAX = -13 !3
            """);
    }
}
