/** Promises 17 to 21: each sentence that names a boundary, in a test of its own. */
final class EdgesOfFloods {
    private static final String THREE = "text d000;b000;p0 = 3\n";
    private static final String SEVEN = "text d0000000;b0000000;p0 = 7\n";
    /** In each of three CELLS a STONE of WEIGHT 1. */
    private static final String LIGHT_ONES = """
        stone 0 1 1 0 = 0
        stone 0 1 1 0 = 1
        stone 0 1 1 0 = 2
        set 0 0 = 1
        set 1 1 = 1
        set 2 2 = 1
        """;
    /** In all of seven CELLS but that amid one of HOLD 1, 9, 4, 12, 4, 12. */
    private static final String SIX_OF_SEVEN = """
        stone 0 1 1 0 = 0
        stone 0 1 9 0 = 1
        stone 1 1 1 0 = 2
        stone 1 1 9 0 = 3
        stone 2 1 1 0 = 4
        stone 2 1 9 0 = 5
        set 0 0 = 1
        set 1 1 = 1
        set 2 2 = 1
        set 3 4 = 1
        set 4 5 = 1
        set 5 6 = 1
        """;

    private EdgesOfFloods() { }

    static void all(Check check) {
        stands(check);
        standsByRounds(check);
        standsBeside(check);
        standsGuarded(check);
        goes(check);
        dug(check);
        flood(check);
        floodRefused(check);
        save(check);
        saveOfSeveral(check);
    }

    /** STONES of one kind and WEIGHT in these CELLS. */
    private static String stones(int kind, int weight, int... cells) {
        StringBuilder lines = new StringBuilder();
        for (int s = 0; s < cells.length; s++) {
            lines.append("stone ").append(kind).append(" 1 ").append(weight).append(" 0 = ").append(s).append('\n');
            lines.append("set ").append(s).append(' ').append(cells[s]).append(" = 1\n");
        }
        return lines.toString();
    }

    /** f and ROUNDS beyond their ends, by a call that has them behind what is told ahead. */
    private static String outside(String call, String behind) {
        String[] wrong = {"-1 0", "10 0", "0 -1", "0 31", "MIN 0", "MAX 0", "0 MIN", "0 MAX", "-1 -1", "10 31"};
        StringBuilder lines = new StringBuilder();
        for (String numbers : wrong) {
            lines.append(call).append(' ').append(numbers).append(' ').append(behind).append(" = -2 !\n");
        }
        return lines.toString();
    }

    private static void stands(Check check) {
        Script.test(check, "17 stands: OUTSIDE: f is 0 .. 9, ROUNDS are 0 .. 30", THREE, LIGHT_ONES, outside("stands", ""),
                "stands 0 0 = 7", "stands 9 0 = 7", "stands 0 30 = 0", "stands 9 30 = 0", "many 4 = 0");
        Script.test(check, "17 stands: STATE: there is no BROOK; OUTSIDE is ahead of it", outside("stands", ""),
                "stands 0 0 = -3 !", "stands 9 30 = -3 !");
        Script.test(check, "17 stands: f 9 is above BED 8, f 0 above none", "text d000;b890;p0 = 3", stones(0, 1, 0, 2),
                "stands 9 30 = 0", "stands 8 30 = 1", "stands 0 30 = 5", "stands 1 30 = 1");
        Script.test(check, "17 stands: PACE and f together: what is no more than BED digs nothing", "text d000;b999;p5 = 3", stones(0, 1, 1),
                "stands 4 30 = 2", "stands 5 1 = 0", "stands 9 1 = 0", "stands 0 30 = 2");
        Script.test(check, "17 stands: as a set: no STONES, one, six of seven CELLS", SEVEN, "stands 0 0 = 0", "stands 9 30 = 0",
                "stone 2 1 9 0 = 0", "stands 0 0 = 0", "set 0 6 = 1", "stands 0 0 = 64", "set 0 0 = 1", "stands 0 0 = 1", SEVEN, SIX_OF_SEVEN,
                "stands 0 0 = 119", "stands 9 0 = 119", "stands 9 30 = 0");
        Script.test(check, "17 stands: also what is not DRY; what lies is not told", THREE, LIGHT_ONES, "water 9 = 0",
                "stands 0 0 = 7", "set 1 NONE = 1", "stands 0 30 = 5", "stands 1 1 = 0");
    }

    private static void standsByRounds(Check check) {
        Script.test(check, "17 stands: DUG as much as HOLD at least: of a STONE WEIGHT", THREE, "stone 0 1 3 0 = 0", "stone 0 1 9 0 = 1",
                "set 0 0 = 1", "set 1 2 = 1", "stands 1 2 = 5", "stands 1 3 = 4", "stands 1 8 = 4", "stands 1 9 = 0", "stands 2 1 = 5",
                "stands 2 2 = 4", "stands 3 1 = 4", "stands 9 1 = 0", "stands 8 1 = 4");
        Script.test(check, "17 stands: HOLD of a FLAT is 3 more", THREE, "stone 1 1 1 0 = 0", "stone 1 1 9 0 = 1", "set 0 0 = 1", "set 1 2 = 1",
                "stands 1 3 = 5", "stands 1 4 = 4", "stands 1 11 = 4", "stands 1 12 = 0");
        Script.test(check, "17 stands: HOLD of a TABLE is 3 more", THREE, "stone 2 1 1 0 = 0", "stone 2 1 9 0 = 1", "set 0 0 = 1", "set 1 2 = 1",
                "stands 1 3 = 5", "stands 1 4 = 4", "stands 1 11 = 4", "stands 1 12 = 0");
        Script.test(check, "17 stands: what goes on by ROUNDS is DUG together", "text d000;b200;p1 = 3", stones(0, 7, 0),
                "stands 2 6 = 1", "stands 2 7 = 0", "stands 3 3 = 1", "stands 3 4 = 0", "stands 1 30 = 1");
        Script.test(check, "17 stands: six of seven, ROUND by ROUND", SEVEN, SIX_OF_SEVEN, """
            stands 1 1 = 118
            stands 1 2 = 82
            stands 1 5 = 82
            stands 1 6 = 80
            stands 1 9 = 80
            stands 1 10 = 0
            stands 0 1 = 118
            stands 0 2 = 86
            stands 0 3 = 86
            stands 0 4 = 82
            stands 0 30 = 82
            """);
    }

    private static void standsBeside(Check check) {
        Script.test(check, "17 stands: 1 more for each CELL beside it that has a STONE", THREE, stones(0, 2, 0, 1, 2),
                "stands 0 1 = 5", "stands 0 2 = 5", "stands 0 30 = 5", "set 1 NONE = 1", "stands 0 30 = 5", "set 1 1 = 1", "set 2 NONE = 1",
                "stands 0 1 = 3", "stands 0 2 = 0");
        Script.test(check, "17 stands: two CELLS away is not beside, nor are the banks", SEVEN, stones(0, 1, 0, 2, 4, 6), "stands 0 30 = 85");
        Script.test(check, "17 stands: the first and the last CELL are not beside one another", SEVEN, stones(0, 1, 0, 6), "stands 0 30 = 65",
                "set 1 1 = 1", "stands 0 1 = 0", "set 0 5 = 1", "set 1 6 = 1", "stands 0 1 = 0");
        Script.test(check, "17 stands: as the ROUND begins: those that go in it count in it", THREE, LIGHT_ONES, "stands 0 1 = 0",
                "set 1 NONE = 1", "stone 0 1 2 0 = 3", "set 3 1 = 1", "stands 0 1 = 0", "set 3 NONE = 1", "stone 0 1 3 0 = 4", "set 4 1 = 1",
                "stands 0 1 = 2", "stands 0 30 = 2");
        Script.test(check, "17 stands: those that are GONE count no more in the next ROUND", THREE, "stone 0 1 1 0 = 0", "stone 0 1 2 0 = 1",
                "set 0 0 = 1", "set 1 1 = 1", "stands 0 1 = 2", "stands 0 2 = 2", "stands 0 30 = 2", "flood 0 30 = 1", "stands 0 30 = 2");
    }

    private static void standsGuarded(Check check) {
        Script.test(check, "17 stands: GUARDED: half, cut: of 1 nothing, of 2 and of 3 1, of 4 2", THREE, stones(0, 2, 0), "guard 0 true = 1",
                "stands 1 30 = 1", "stands 2 1 = 1", "stands 2 2 = 0", "stands 3 1 = 1", "stands 3 2 = 0", "stands 4 1 = 0", "stands 0 30 = 1");
        Script.test(check, "17 stands: GUARDED: half, and then what is above BED", "text d000;b200;p4 = 3", stones(0, 1, 0),
                "stands 0 1 = 0", "guard 0 true = 1", "stands 0 30 = 1", "stands 1 30 = 1", "stands 2 1 = 0");
        Script.test(check, "17 stands: GUARDED: half of those beside it, too", THREE, LIGHT_ONES, "guard 1 true = 1", "guard 0 true = 1",
                "stands 0 1 = 1", "stands 0 30 = 1");
        Script.test(check, "17 stands: GUARDED: only this CELL, with a STONE or without", THREE, LIGHT_ONES, "set 1 NONE = 1", "guard 1 true = 1",
                "stands 1 1 = 0", "guard 2 true = 1", "stands 1 1 = 4", "guard 2 false = 1", "stands 1 1 = 0");
    }

    private static void goes(Check check) {
        Script.test(check, "18 goes: UNKNOWN: CELLS are 0 .. 2 of three", "goes 0 0 = -1 !", THREE, LIGHT_ONES, "goes -1 0 = -1 !",
                "goes 3 0 = -1 !", "goes MIN 0 = -1 !", "goes MAX 0 = -1 !", "goes NONE 0 = -1 !", "goes 0 0 = 1", "goes 2 0 = 1");
        Script.test(check, "18 goes: UNKNOWN: CELLS are 0 .. 6 of seven", SEVEN, SIX_OF_SEVEN, "goes 7 0 = -1 !", "goes 6 0 = NONE", "goes 6 1 = 10",
                "goes 6 9 = 2", "goes 6 8 = 2", "goes 0 0 = 1");
        Script.test(check, "18 goes: OUTSIDE: f is 0 .. 9", THREE, LIGHT_ONES, "goes 0 -1 = -2 !", "goes 0 10 = -2 !", "goes 0 MIN = -2 !",
                "goes 0 MAX = -2 !", "goes 0 0 = 1", "goes 0 9 = 1");
        Script.test(check, "18 goes: OUTSIDE also where there is no STONE", THREE, "goes 0 10 = -2 !", "goes 0 -1 = -2 !", "goes 0 9 = NONE");
        Script.test(check, "18 goes: two at once: UNKNOWN", "goes 0 10 = -1 !", THREE, "goes 3 10 = -1 !", "goes -1 -1 = -1 !");
        Script.test(check, "18 goes: ROUNDS are numbered from 1 on, 12 is the latest", THREE, "stone 0 1 1 0 = 0", "stone 2 1 9 0 = 1",
                "set 0 0 = 1", "set 1 2 = 1", "goes 0 1 = 1", "goes 2 1 = 12", "goes 2 2 = 6", "goes 2 5 = 3", "goes 2 6 = 2", "goes 2 9 = 2");
        Script.test(check, "18 goes: NONE: it does not, there is none", THREE, "stone 0 1 1 0 = 0", "goes 0 9 = NONE", "set 0 1 = 1",
                "goes 1 0 = NONE", "goes 1 1 = 1", "goes 0 9 = NONE", "goes 2 9 = NONE", "guard 1 true = 1", "goes 1 1 = NONE", "goes 1 2 = 1");
        Script.test(check, "18 goes: each in its own ROUND", THREE, stones(0, 3, 0, 1, 2), "goes 0 0 = NONE", "goes 1 0 = 2", "goes 2 0 = NONE",
                "goes 0 1 = 2", "goes 1 1 = 1", "goes 2 1 = 2", "many 4 = 0");
        Script.test(check, "18 goes: the one beside it goes first, it stays behind", THREE, "stone 0 1 1 0 = 0", "stone 0 1 2 0 = 1",
                "set 0 0 = 1", "set 1 1 = 1", "goes 0 0 = 1", "goes 1 0 = NONE", "stone 0 1 9 0 = 2", "set 0 NONE = 1", "set 2 0 = 1",
                "goes 1 0 = 2", "goes 0 0 = NONE");
    }

    private static void dug(Check check) {
        Script.test(check, "19 dug: UNKNOWN: CELLS are 0 .. 2 of three", "dug 0 0 0 = -1 !", THREE, LIGHT_ONES, "dug -1 0 0 = -1 !",
                "dug 3 0 0 = -1 !", "dug MIN 0 0 = -1 !", "dug MAX 0 0 = -1 !", "dug NONE 0 0 = -1 !", "dug 0 0 0 = 0", "dug 2 9 30 = 10");
        Script.test(check, "19 dug: UNKNOWN: CELLS are 0 .. 6 of seven", SEVEN, SIX_OF_SEVEN, "dug 7 0 1 = -1 !", "dug 6 0 1 = 1", "dug 6 0 30 = 2",
                "dug 5 0 30 = 4", "dug 3 9 30 = 0");
        Script.test(check, "19 dug: OUTSIDE: f is 0 .. 9, ROUNDS are 0 .. 30", THREE, LIGHT_ONES, outside("dug 0", ""),
                "dug 0 0 30 = 1", "dug 0 9 0 = 0", "dug 0 9 30 = 10", "dug 0 0 0 = 0");
        Script.test(check, "19 dug: OUTSIDE also where there is no STONE", THREE, outside("dug 1", ""), "dug 1 9 30 = 0");
        Script.test(check, "19 dug: two at once: UNKNOWN", THREE, "dug 3 10 0 = -1 !", "dug 3 0 31 = -1 !", "dug -1 -1 -1 = -1 !");
        Script.test(check, "19 dug: ROUND by ROUND, and as its STONE goes", THREE, "stone 2 1 9 0 = 0", "set 0 2 = 1", """
            dug 2 5 0 = 0
            dug 2 5 1 = 5
            dug 2 5 2 = 10
            dug 2 5 3 = 15
            dug 2 5 4 = 15
            dug 2 5 30 = 15
            dug 2 1 11 = 11
            dug 2 1 12 = 12
            dug 2 1 13 = 12
            dug 2 0 30 = 0
            dug 0 9 30 = 0
            """);
        Script.test(check, "19 dug: the most: 11 and 11 once more; 20 at once", "text d000;b000;p9 = 3", "stone 2 1 9 0 = 0", "set 0 1 = 1",
                "dug 1 2 1 = 11", "dug 1 2 2 = 22", "dug 1 2 3 = 22", "stone 1 1 9 0 = 1", "stone 1 1 9 0 = 2", "set 1 0 = 1", "set 2 2 = 1",
                "dug 1 9 1 = 20", "dug 1 9 30 = 20", "dug 0 9 1 = 19");
        Script.test(check, "19 dug: above BED, half if it is GUARDED", "text d000;b123;p4 = 3", stones(0, 9, 0, 2), """
            dug 0 0 1 = 3
            dug 2 0 1 = 1
            dug 2 0 8 = 8
            guard 0 true = 1
            guard 2 true = 1
            dug 0 0 1 = 1
            dug 0 1 1 = 1
            dug 0 2 1 = 2
            dug 2 3 30 = 0
            dug 2 4 1 = 1
            """);
        Script.test(check, "19 dug: what is no more than BED takes nothing back", "text d000;b900;p0 = 3", stones(0, 9, 0), "dug 0 0 30 = 0",
                "dug 0 9 30 = 0");
        Script.test(check, "19 dug: none where one was taken up or is GONE", THREE, LIGHT_ONES, "dug 1 0 1 = 2", "set 1 NONE = 1",
                "dug 1 0 1 = 0", "dug 0 0 1 = 0", "set 1 1 = 1", "flood 0 1 = 3", "dug 1 0 1 = 0", "dug 0 9 9 = 0");
    }

    private static void flood(Check check) {
        Script.test(check, "20 flood: how many are GONE: none, one, all six", SEVEN, SIX_OF_SEVEN, "flood 9 0 = 0", "many 4 = 0", "flood 0 1 = 1",
                "many 4 = 1", "many 3 = 5", "ofStone 0 5 = -5", "ofStone 1 5 = 1", "flood 9 30 = 5", "many 4 = 6", "many 3 = 0", "many 1 = 6",
                "flood 9 30 = 0", "many 4 = 6");
        Script.test(check, "20 flood: none is SET: none goes; what lies stays", THREE, "flood 9 30 = 0", "stone 0 1 1 0 = 0", "flood 9 30 = 0",
                "ofStone 0 5 = NONE", "many 4 = 0", "set 0 0 = 1", "flood 9 30 = 1", "ofStone 0 5 = -5");
        Script.test(check, "20 flood: as stands tells it ahead", SEVEN, SIX_OF_SEVEN, "stands 1 2 = 82", "flood 1 2 = 3", "stands 0 0 = 82",
                "ofCell 0 2 = NONE", "ofCell 2 2 = NONE", "ofCell 1 2 = 1", "ofStone 2 5 = -5", "ofStone 5 5 = 6");
        Script.test(check, "20 flood: what was DUG by one is not there for the next", THREE, stones(0, 2, 1), "flood 1 1 = 0", "flood 1 1 = 0",
                "dug 1 1 1 = 1", "flood 1 2 = 1", "ofStone 0 5 = -5");
        Script.test(check, "20 flood: it leaves WATER, GUARDED CELLS, WALKERS, the BROOK", "text d123;b012;p3 = 3", LIGHT_ONES, "guard 0 true = 1",
                "water 4 = 0", "walker 5 = 0", "flood 9 30 = 3", "many 0 = 3", "many 2 = 1", "many 5 = 1", "many 6 = 4", "ofCell 0 3 = 1",
                "ofCell 2 0 = 3", "ofCell 2 1 = 2", "stride 0 = 5", "trace = 0");
        Script.test(check, "20 flood: one behind a GUARD stays", THREE, LIGHT_ONES, "guard 2 true = 1", "flood 0 1 = 2", "ofStone 1 5 = -5",
                "ofStone 0 5 = -5", "ofStone 2 5 = 2", THREE, LIGHT_ONES, "guard 0 true = 1", "flood 0 1 = 2", "ofStone 0 5 = 0");
    }

    private static void floodRefused(Check check) {
        Script.test(check, "20 flood: OUTSIDE: f is 0 .. 9, ROUNDS are 0 .. 30", THREE, LIGHT_ONES, outside("flood", ""), "many 4 = 0",
                "flood 9 0 = 0", "flood 0 30 = 3");
        Script.test(check, "20 flood: f 9, ROUNDS 30", "text d000;b888;p0 = 3", stones(0, 1, 1), "flood 8 30 = 0", "flood 9 30 = 1");
        Script.test(check, "20 flood: STATE: there is no BROOK; OUTSIDE is ahead of it", outside("flood", ""), "flood 0 0 = -3 !", "flood 9 30 = -3 !");
    }

    private static void save(Check check) {
        Script.test(check, "21 save: OUTSIDE: f, ROUNDS, what is 0 or 1", THREE, LIGHT_ONES, outside("save", "0"), outside("save", "1"), """
            save 0 0 -1 = -2 !
            save 0 0 2 = -2 !
            save 0 0 MIN = -2 !
            save 0 0 MAX = -2 !
            save 10 31 2 = -2 !
            save 0 0 0 = 0
            save 0 0 1 = 3
            save 9 30 0 = 0
            save 9 30 1 = 0
            many 5 = 0
            """);
        Script.test(check, "21 save: STATE: there is no BROOK; OUTSIDE is ahead of it", outside("save", "0"), "save 0 0 -1 = -2 !",
                "save 0 0 2 = -2 !", "save 0 0 0 = -3 !", "save 0 0 1 = -3 !", "save 9 30 1 = -3 !");
        Script.test(check, "21 save: no STONES: the least CELL, none stands", THREE, "save 0 0 0 = 0", "save 9 30 0 = 0", "save 9 30 1 = 0");
        Script.test(check, "21 save: the last CELL of seven", "text d0000000;b0000001;p2 = 7", stones(0, 1, 6), "save 0 1 0 = 6", "save 0 1 1 = 1",
                "stands 0 1 = 0", "save 1 30 0 = 6", "save 1 30 1 = 1", "save 2 1 0 = 0", "save 2 1 1 = 0", "many 5 = 0");
        Script.test(check, "21 save: the most of six", SEVEN, SIX_OF_SEVEN, "save 0 0 1 = 6", "save 0 0 0 = 0", "save 0 1 0 = 0", "save 0 1 1 = 6",
                "save 0 2 0 = 0", "save 0 2 1 = 5", "save 9 30 1 = 0");
    }

    private static void saveOfSeveral(Check check) {
        Script.test(check, "21 save: of several the least", THREE, stones(0, 1, 0, 2), "save 1 30 0 = 0", "save 1 30 1 = 1", "set 0 1 = 1",
                "save 0 30 0 = 1", "save 0 30 1 = 1", "save 1 30 0 = 0", "save 1 30 1 = 0", "set 1 NONE = 1", "save 1 1 0 = 1", "save 1 1 1 = 1", "set 0 2 = 1", "save 1 1 0 = 2");
        Script.test(check, "21 save: a CELL that is GUARDED already: any leaves as many: the least", THREE, stones(0, 1, 2), "guard 2 true = 1",
                "save 1 30 0 = 0", "save 1 30 1 = 1", "guard 0 true = 1", "save 1 30 0 = 0", "guard 1 true = 1", "save 1 30 0 = 0", "save 1 30 1 = 1",
                "save 2 30 0 = 0", "save 2 30 1 = 0");
        Script.test(check, "21 save: GUARDED too: what is GUARDED stays so", THREE, stones(0, 1, 0, 2), "guard 0 true = 1", "save 1 30 0 = 2",
                "save 1 30 1 = 2", "guard 2 true = 1", "save 1 30 0 = 0", "save 1 30 1 = 2", "guard 0 false = 1", "save 1 30 0 = 0", "save 1 30 1 = 2",
                "many 5 = 1");
        Script.test(check, "21 save: one that stands longer digs beside it: a GUARD may leave fewer", "text d000;b010;p0 = 3",
                stones(0, 2, 0, 1), "stands 1 30 = 2", "save 1 30 0 = 1", "save 1 30 1 = 1", "save 1 1 0 = 0", "save 1 1 1 = 2",
                "guard 0 true = 1", "stands 1 30 = 0", "stands 1 1 = 3");
    }
}
