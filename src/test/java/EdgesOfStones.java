/** Promises 6 to 11: each sentence that names a boundary, in a test of its own. */
final class EdgesOfStones {
    private static final String THREE = "text d012;b345;p6 = 3\n";
    private static final String SEVEN = "text d0000000;b0000000;p0 = 7\n";
    private static final String SIX_STONES = """
        stone 0 1 1 0 = 0
        stone 1 2 2 1 = 1
        stone 2 3 3 2 = 2
        stone 0 18 7 7 = 3
        stone 1 19 8 8 = 4
        stone 2 20 9 9 = 5
        """;
    private static final String SIX_WALKERS = """
        walker 9 = 0
        walker 1 = 1
        walker 5 = 2
        walker 5 = 3
        walker 2 = 4
        walker 8 = 5
        """;

    private EdgesOfStones() { }

    static void all(Check check) {
        stone(check);
        stoneRefused(check);
        ofStone(check);
        set(check);
        setRefused(check);
        work(check);
        walker(check);
        stride(check);
    }

    private static void stone(Check check) {
        Script.test(check, "6 stone: kinds are 0 .. 2", THREE,
                "stone -1 5 5 5 = -2 !", "stone 3 5 5 5 = -2 !", "stone MIN 5 5 5 = -2 !", "stone MAX 5 5 5 = -2 !", "many 1 = 0",
                "stone 0 5 5 5 = 0", "stone 2 5 5 5 = 1", "stone 1 5 5 5 = 2", "ofStone 0 0 = 0", "ofStone 1 0 = 2", "ofStone 2 0 = 1");
        Script.test(check, "6 stone: HEIGHT is 1 .. 20", THREE,
                "stone 0 0 5 5 = -2 !", "stone 0 21 5 5 = -2 !", "stone 0 -1 5 5 = -2 !", "stone 0 MIN 5 5 = -2 !",
                "stone 0 MAX 5 5 = -2 !", "many 1 = 0", "stone 0 1 5 5 = 0", "stone 0 20 5 5 = 1", "ofStone 0 1 = 1", "ofStone 1 1 = 20");
        Script.test(check, "6 stone: WEIGHT is 1 .. 9", THREE,
                "stone 0 5 0 5 = -2 !", "stone 0 5 10 5 = -2 !", "stone 0 5 -1 5 = -2 !", "stone 0 5 MIN 5 = -2 !",
                "stone 0 5 MAX 5 = -2 !", "many 1 = 0", "stone 0 5 1 5 = 0", "stone 0 5 9 5 = 1", "ofStone 0 2 = 1", "ofStone 1 2 = 9");
        Script.test(check, "6 stone: LIES is 0 .. 9", THREE,
                "stone 0 5 5 -1 = -2 !", "stone 0 5 5 10 = -2 !", "stone 0 5 5 NONE = -2 !", "stone 0 5 5 MIN = -2 !",
                "stone 0 5 5 MAX = -2 !", "many 1 = 0", "stone 0 5 5 0 = 0", "stone 0 5 5 9 = 1", "ofStone 0 3 = 0", "ofStone 1 3 = 9");
        Script.test(check, "6 stone: all least ones and all greatest ones", THREE,
                "stone 0 1 1 0 = 0", "stone 2 20 9 9 = 1", "ofStone 0 4 = 1", "ofStone 1 4 = 12", "many 1 = 2");
        Script.test(check, "6 stone: it lies at first, and moves no other one", THREE,
                "stone 0 5 5 0 = 0", "set 0 1 = 1", "stone 1 6 6 1 = 1", "ofStone 1 5 = NONE", "ofStone 0 5 = 1", "many 3 = 1",
                "ofCell 0 2 = NONE", "ofCell 1 2 = 0");
    }

    private static void stoneRefused(Check check) {
        Script.test(check, "6 stone: STATE: there is no BROOK; OUTSIDE is ahead of it", """
            stone 0 1 1 0 = -3 !
            stone 2 20 9 9 = -3 !
            stone -1 1 1 0 = -2 !
            stone 3 1 1 0 = -2 !
            stone 0 0 1 0 = -2 !
            stone 0 21 1 0 = -2 !
            stone 0 1 0 0 = -2 !
            stone 0 1 10 0 = -2 !
            stone 0 1 1 -1 = -2 !
            stone 0 1 1 10 = -2 !
            many 1 = 0
            """);
        Script.test(check, "6 stone: the sixth is taken, the seventh is FULL", THREE, SIX_STONES,
                "many 1 = 6", "stone 0 1 1 0 = -4 !", "stone 2 20 9 9 = -4 !", "many 1 = 6", "ofStone 5 1 = 20", "ofStone 6 1 = -1 !");
        Script.test(check, "6 stone: OUTSIDE is ahead of FULL", THREE, SIX_STONES,
                "stone -1 1 1 0 = -2 !", "stone 3 1 1 0 = -2 !", "stone 0 0 1 0 = -2 !", "stone 0 21 1 0 = -2 !",
                "stone 0 1 0 0 = -2 !", "stone 0 1 10 0 = -2 !", "stone 0 1 1 -1 = -2 !", "stone 0 1 1 10 = -2 !", "stone 0 1 1 9 = -4 !");
        Script.test(check, "6 stone: those that are GONE count", SEVEN, SIX_STONES,
                "set 0 0 = 1", "set 1 2 = 1", "set 2 4 = 1", "flood 9 30 = 3", "many 4 = 3", "stone 0 1 1 0 = -4 !",
                "set 3 0 = 1", "set 4 2 = 1", "set 5 4 = 1", "flood 9 30 = 3", "many 4 = 6", "many 3 = 0", "stone 0 1 1 0 = -4 !", "many 1 = 6");
        Script.test(check, "6 stone: GONE ones count: five are, the sixth is taken", SEVEN,
                "stone 0 1 1 0 = 0", "stone 0 1 1 0 = 1", "set 0 0 = 1", "set 1 6 = 1", "flood 9 30 = 2", "stone 0 1 1 0 = 2",
                "stone 0 1 1 0 = 3", "stone 0 1 1 0 = 4", "many 1 = 5", "stone 0 1 1 0 = 5", "stone 0 1 1 0 = -4 !");
        Script.test(check, "6 stone: behind a TEXT they are numbered from 0 again", THREE, SIX_STONES, THREE,
                "stone 1 20 1 0 = 0", "ofStone 0 1 = 20", "ofStone 1 1 = -1 !", "many 1 = 1");
    }

    private static void ofStone(Check check) {
        Script.test(check, "7 ofStone: UNKNOWN: none, then 0 alone", THREE,
                "ofStone 0 0 = -1 !", "ofStone -1 0 = -1 !", "stone 1 5 5 5 = 0", "ofStone 0 0 = 1", "ofStone -1 0 = -1 !",
                "ofStone 1 0 = -1 !", "ofStone MIN 0 = -1 !", "ofStone MAX 0 = -1 !");
        Script.test(check, "7 ofStone: UNKNOWN: six are 0 .. 5", THREE, SIX_STONES,
                "ofStone 0 2 = 1", "ofStone 5 2 = 9", "ofStone 6 2 = -1 !", "ofStone 3 1 = 18", "ofStone 4 3 = 8");
        Script.test(check, "7 ofStone: OUTSIDE: what is 0 .. 5", THREE, "stone 2 17 8 7 = 0",
                "ofStone 0 -1 = -2 !", "ofStone 0 0 = 2", "ofStone 0 1 = 17", "ofStone 0 2 = 8", "ofStone 0 3 = 7", "ofStone 0 4 = 11",
                "ofStone 0 5 = NONE", "ofStone 0 6 = -2 !", "ofStone 0 MIN = -2 !", "ofStone 0 MAX = -2 !");
        Script.test(check, "7 ofStone: two at once: UNKNOWN", THREE, "stone 0 5 5 5 = 0", "ofStone 1 6 = -1 !", "ofStone -1 -1 = -1 !");
        Script.test(check, "7 ofStone: HOLD: a STONE's is its WEIGHT, a FLAT one's 3 more, a TABLE's too", THREE, """
            stone 0 5 1 5 = 0
            stone 0 5 9 5 = 1
            stone 1 5 1 5 = 2
            stone 1 5 9 5 = 3
            stone 2 5 1 5 = 4
            stone 2 5 9 5 = 5
            ofStone 0 4 = 1
            ofStone 1 4 = 9
            ofStone 2 4 = 4
            ofStone 3 4 = 12
            ofStone 4 4 = 4
            ofStone 5 4 = 12
            """);
        Script.test(check, "7 ofStone: its CELL: it lies, in the first, in the last, it lies again", SEVEN, SIX_STONES,
                "ofStone 5 5 = NONE", "set 5 0 = 1", "ofStone 5 5 = 0", "set 5 6 = 1", "ofStone 5 5 = 6", "set 5 NONE = 1",
                "ofStone 5 5 = NONE", "set 0 6 = 1", "ofStone 0 5 = 6", "ofStone 5 5 = NONE");
        Script.test(check, "7 ofStone: -5: it is GONE; all else is told as before", SEVEN, SIX_STONES,
                "set 2 3 = 1", "flood 9 30 = 1", "ofStone 2 5 = -5", "ofStone 2 0 = 2", "ofStone 2 1 = 3", "ofStone 2 2 = 3",
                "ofStone 2 3 = 2", "ofStone 2 4 = 6", "ofStone 1 5 = NONE", "ofStone 3 5 = NONE", "ofStone 2 6 = -2 !");
    }

    private static void set(Check check) {
        Script.test(check, "8 set: in the first CELL, in the last one", THREE, SIX_STONES,
                "set 0 0 = 1", "ofCell 0 2 = 0", "set 5 2 = 1", "ofCell 2 2 = 5", "ofCell 1 2 = NONE", "many 3 = 2");
        Script.test(check, "8 set: from another CELL: that one is free", THREE, SIX_STONES,
                "set 0 0 = 1", "set 0 2 = 1", "ofCell 0 2 = NONE", "ofCell 2 2 = 0", "ofStone 0 5 = 2", "many 3 = 1", "set 1 0 = 1",
                "ofCell 0 2 = 1", "many 3 = 2");
        Script.test(check, "8 set: NONE: it lies where it did", THREE, SIX_STONES,
                "set 3 1 = 1", "set 3 NONE = 1", "ofCell 1 2 = NONE", "ofStone 3 5 = NONE", "ofStone 3 3 = 7", "many 3 = 0", "many 4 = 0",
                "set 4 1 = 1", "ofCell 1 2 = 4");
        Script.test(check, "8 set: NONE of one that lies: it lies", THREE, SIX_STONES,
                "set 3 NONE = 1", "ofStone 3 5 = NONE", "many 3 = 0", "set 3 NONE = 1", "set 4 0 = 1", "set 3 NONE = 1", "ofCell 0 2 = 4");
        Script.test(check, "8 set: six in seven CELLS, then one by one away", SEVEN, SIX_STONES, """
            set 0 6 = 1
            set 1 5 = 1
            set 2 4 = 1
            set 3 3 = 1
            set 4 2 = 1
            set 5 1 = 1
            many 3 = 6
            set 0 0 = 1
            set 0 NONE = 1
            many 3 = 5
            set 5 NONE = 1
            set 4 NONE = 1
            set 3 NONE = 1
            set 2 NONE = 1
            many 3 = 1
            ofCell 5 2 = 1
            set 1 NONE = 1
            many 3 = 0
            """);
        Script.test(check, "8 set: three in three CELLS: a fourth finds none free", THREE, SIX_STONES,
                "set 0 0 = 1", "set 1 1 = 1", "set 2 2 = 1", "set 3 0 = -3 !", "set 3 1 = -3 !", "set 3 2 = -3 !", "set 0 1 = -3 !",
                "set 1 NONE = 1", "set 3 1 = 1", "ofCell 1 2 = 3");
    }

    private static void setRefused(Check check) {
        Script.test(check, "8 set: UNKNOWN: STONES are 0 .. 5", THREE, SIX_STONES,
                "set -1 0 = -1 !", "set 6 0 = -1 !", "set MIN 0 = -1 !", "set MAX 0 = -1 !", "set -1 NONE = -1 !", "set 6 NONE = -1 !",
                "set NONE 0 = -1 !", "set 5 0 = 1");
        Script.test(check, "8 set: UNKNOWN: no STONES at all", THREE, "set 0 0 = -1 !", "set 0 NONE = -1 !");
        Script.test(check, "8 set: UNKNOWN: CELLS are 0 .. 2 and NONE", THREE, SIX_STONES,
                "set 0 -1 = -1 !", "set 0 3 = -1 !", "set 0 -8 = -1 !", "set 0 -10 = -1 !", "set 0 9 = -1 !", "set 0 -5 = -1 !",
                "set 0 MIN = -1 !", "set 0 MAX = -1 !", "set 0 2 = 1", "set 0 3 = -1 !", "ofStone 0 5 = 2");
        Script.test(check, "8 set: UNKNOWN: CELLS are 0 .. 6 of seven", SEVEN, SIX_STONES, "set 0 7 = -1 !", "set 0 6 = 1");
        Script.test(check, "8 set: STATE: a STONE is there: it, too", THREE, SIX_STONES,
                "set 0 1 = 1", "set 0 1 = -3 !", "set 1 1 = -3 !", "ofCell 1 2 = 0", "set 1 0 = 1", "set 1 1 = -3 !", "set 0 0 = -3 !",
                "ofStone 1 5 = 0");
        Script.test(check, "8 set: STATE: it is GONE, for ever", THREE, SIX_STONES,
                "set 0 1 = 1", "flood 9 30 = 1", "set 0 0 = -3 !", "set 0 1 = -3 !", "set 0 NONE = -3 !", "ofStone 0 5 = -5", "set 1 1 = 1",
                "set 0 1 = -3 !", "set 0 0 = -3 !", "many 4 = 1");
        Script.test(check, "8 set: two at once: UNKNOWN", THREE, SIX_STONES,
                "set 0 1 = 1", "flood 9 30 = 1", "set 0 3 = -1 !", "set 0 -1 = -1 !", "set 1 1 = 1", "set 6 1 = -1 !", "set 6 3 = -1 !");
        Script.test(check, "8 set: the CELL of one that is GONE is free", THREE, SIX_STONES,
                "set 0 1 = 1", "flood 9 30 = 1", "ofCell 1 2 = NONE", "set 5 1 = 1", "ofCell 1 2 = 5", "ofStone 0 5 = -5");
    }

    private static void work(Check check) {
        Script.test(check, "9 work: WEIGHT times LIES, CELL and 1 together: the least, the most", SEVEN, """
            stone 0 5 1 0 = 0
            stone 0 5 9 9 = 1
            stone 1 5 1 0 = 2
            stone 1 5 9 9 = 3
            work 0 0 = 1
            work 0 6 = 7
            work 1 0 = 90
            work 1 6 = 144
            work 2 0 = 1
            work 2 6 = 7
            work 3 0 = 90
            work 3 6 = 144
            """);
        Script.test(check, "9 work: of a TABLE thrice that", SEVEN,
                "stone 2 5 1 0 = 0", "stone 2 5 9 9 = 1", "work 0 0 = 3", "work 0 6 = 21", "work 1 0 = 270", "work 1 6 = 432");
        Script.test(check, "9 work: it has no DEPTH, BED, WATER in it", THREE,
                "stone 0 1 2 3 = 0", "work 0 2 = 12", "water 9 = 0", "work 0 2 = 12", "work 0 0 = 8", "guard 0 true = 1", "work 0 0 = 8");
        Script.test(check, "9 work: of one that is SET, in its CELL and in one that is not free", THREE, SIX_STONES,
                "set 3 1 = 1", "set 4 2 = 1", "work 3 1 = 63", "work 3 2 = 70", "work 4 1 = 80", "many 3 = 2");
        Script.test(check, "9 work: of one that is GONE", THREE, SIX_STONES, "set 3 1 = 1", "flood 9 30 = 1", "work 3 0 = 56");
        Script.test(check, "9 work: UNKNOWN: STONES are 0 .. 5, CELLS 0 .. 2", THREE, SIX_STONES, """
            work -1 0 = -1 !
            work 6 0 = -1 !
            work MIN 0 = -1 !
            work MAX 0 = -1 !
            work 0 -1 = -1 !
            work 0 3 = -1 !
            work 0 NONE = -1 !
            work 0 MIN = -1 !
            work 0 MAX = -1 !
            work 6 3 = -1 !
            work 5 2 = 324
            work 0 0 = 1
            """);
        Script.test(check, "9 work: UNKNOWN: no STONES at all", THREE, "work 0 0 = -1 !", "stone 0 1 1 0 = 0", "work 0 0 = 1", "work 1 0 = -1 !");
    }

    private static void walker(Check check) {
        Script.test(check, "10 walker: OUTSIDE: STRIDES are 1 .. 9", THREE,
                "walker 0 = -2 !", "walker 10 = -2 !", "walker -1 = -2 !", "walker MIN = -2 !", "walker MAX = -2 !", "many 2 = 0",
                "walker 1 = 0", "walker 9 = 1", "many 2 = 2", "stride 0 = 1", "stride 1 = 9");
        Script.test(check, "10 walker: STATE: there is no BROOK; OUTSIDE is ahead of it",
                "walker 1 = -3 !", "walker 9 = -3 !", "walker 0 = -2 !", "walker 10 = -2 !", "many 2 = 0");
        Script.test(check, "10 walker: the sixth is taken, the seventh is FULL", THREE, SIX_WALKERS,
                "many 2 = 6", "walker 1 = -4 !", "walker 9 = -4 !", "many 2 = 6", "stride 5 = 8", "stride 6 = -1 !");
        Script.test(check, "10 walker: OUTSIDE is ahead of FULL", THREE, SIX_WALKERS, "walker 0 = -2 !", "walker 10 = -2 !", "many 2 = 6");
        Script.test(check, "10 walker: behind a TEXT they are numbered from 0 again", THREE, SIX_WALKERS, THREE,
                "stride 0 = -1 !", "walker 7 = 0", "stride 0 = 7", "stride 1 = -1 !");
        Script.test(check, "10 walker: none is counted as a STONE, none as a WALKER", THREE, SIX_WALKERS,
                "many 1 = 0", "stone 0 1 1 0 = 0", "many 2 = 6", "many 1 = 1");
    }

    private static void stride(Check check) {
        Script.test(check, "11 stride: UNKNOWN: none, then 0 alone", THREE,
                "stride 0 = -1 !", "stride -1 = -1 !", "walker 4 = 0", "stride 0 = 4", "stride 1 = -1 !", "stride -1 = -1 !",
                "stride MIN = -1 !", "stride MAX = -1 !");
        Script.test(check, "11 stride: six are 0 .. 5, each has its own", THREE, SIX_WALKERS,
                "stride 0 = 9", "stride 1 = 1", "stride 2 = 5", "stride 3 = 5", "stride 4 = 2", "stride 5 = 8", "stride 6 = -1 !");
    }
}
