/** Promises 32 to 37: each sentence that names a boundary, in a test of its own. */
final class EdgesOfParts {
    private static final String THREE = "text d000;b000;p0 = 3\n";
    private static final String SIX_STONES = """
        stone 0 1 1 0 = 0
        stone 1 1 1 0 = 1
        stone 2 1 1 0 = 2
        stone 0 1 9 0 = 3
        stone 1 1 9 0 = 4
        stone 2 1 9 0 = 5
        """;

    private EdgesOfParts() { }

    static void all(Check check) {
        tell(check);
        tread(check);
        as(check);
        trace(check);
        fault(check);
        faultKept(check);
        many(check);
    }

    private static void tell(Check check) {
        Script.test(check, "32 tell: of a STONE its WEIGHT: 1, 9; body 1", THREE, SIX_STONES, "tell 0 = 1", "trace = 1", "tell 3 = 9", "trace = 32");
        Script.test(check, "32 tell: of a FLAT 100 and what STONE's gives; bodies 2, 1", THREE, SIX_STONES, "tell 1 = 101", "trace = 63", "tell 4 = 109",
                "trace = " + (63 * 961 + 63));
        Script.test(check, "32 tell: of a TABLE what FLAT's gives and what STONE's gives; bodies 3, 2, 1, 1", THREE, SIX_STONES, "tell 2 = 102",
                "trace = " + (((3 * 31 + 2) * 31 + 1) * 31 + 1), "tell 5 = 118");
        Script.test(check, "32 tell: UNKNOWN: no STONES, then 0 alone", "tell 0 = -1 !", THREE, "tell 0 = -1 !", "stone 2 1 4 0 = 0", "tell -1 = -1 !",
                "tell 1 = -1 !", "tell MIN = -1 !", "tell MAX = -1 !", "trace = 0", "tell 0 = 108");
        Script.test(check, "32 tell: UNKNOWN: six are 0 .. 5", THREE, SIX_STONES, "tell 6 = -1 !", "tell -1 = -1 !", "trace = 0", "tell 5 = 118");
        Script.test(check, "32 tell: of one that is SET, of one that is GONE", THREE, SIX_STONES, "set 1 0 = 1", "tell 1 = 101", "flood 9 30 = 1", "tell 1 = 101",
                "trace = " + (63 * 961 + 63));
    }

    private static void tread(Check check) {
        Script.test(check, "33 tread: of a STONE, of a FLAT its own number; body 4", THREE, SIX_STONES, "tread 0 = 0", "trace = 4", "tread 1 = 1", "trace = 128",
                "tread 3 = 3", "tread 4 = 4", "trace = " + ((128 * 31 + 4) * 31 + 4));
        Script.test(check, "33 tread: of a TABLE 30; body 5", THREE, SIX_STONES, "tread 2 = 30", "trace = 5", "tread 5 = 30", "trace = 160");
        Script.test(check, "33 tread: the number of the last of six", THREE, "stone 2 1 1 0 = 0", "stone 2 1 1 0 = 1", "stone 2 1 1 0 = 2", "stone 2 1 1 0 = 3",
                "stone 2 1 1 0 = 4", "stone 0 1 1 0 = 5", "tread 5 = 5", "tread 0 = 30");
        Script.test(check, "33 tread: UNKNOWN: no STONES, then 0 alone", "tread 0 = -1 !", THREE, "tread 0 = -1 !", "stone 0 1 4 0 = 0", "tread -1 = -1 !",
                "tread 1 = -1 !", "tread MIN = -1 !", "tread MAX = -1 !", "trace = 0", "tread 0 = 0", "trace = 4");
        Script.test(check, "33 tread: UNKNOWN: six are 0 .. 5", THREE, SIX_STONES, "tread 6 = -1 !", "tread -1 = -1 !", "trace = 0", "tread 5 = 30");
        Script.test(check, "33 tread: of one that is SET, of one that is GONE", THREE, SIX_STONES, "set 4 2 = 1", "tread 4 = 4", "flood 9 30 = 1", "tread 4 = 4",
                "trace = 128");
    }

    private static void as(Check check) {
        Script.test(check, "34 as: each is a STONE; a FLAT is FLAT; a TABLE is FLAT, and a TABLE", THREE, SIX_STONES, """
            as 0 0 = 1
            as 0 1 = -12 !2
            as 0 2 = -12 !2
            as 1 0 = 1
            as 1 1 = 1
            as 1 2 = -12 !2
            as 2 0 = 1
            as 2 1 = 1
            as 2 2 = 1
            """);
        Script.test(check, "34 as: UNKNOWN: no STONES, then 0 alone; six are 0 .. 5", "as 0 0 = -1 !0", THREE, "as 0 0 = -1 !0", "stone 0 1 1 0 = 0", "as 0 0 = 1",
                "as 1 0 = -1 !0", "as -1 0 = -1 !0", "as MIN 0 = -1 !0", "as MAX 0 = -1 !0", THREE, SIX_STONES, "as 5 2 = 1", "as 6 0 = -1 !0", "as -1 0 = -1 !0");
        Script.test(check, "34 as: OUTSIDE: kinds are 0 .. 2", THREE, SIX_STONES, "as 2 -1 = -2 !0", "as 2 3 = -2 !0", "as 0 3 = -2 !0", "as 0 -1 = -2 !0",
                "as 0 MIN = -2 !0", "as 0 MAX = -2 !0", "as 2 0 = 1", "as 2 2 = 1");
        Script.test(check, "34 as: two at once: UNKNOWN", THREE, SIX_STONES, "as 6 3 = -1 !0", "as -1 -1 = -1 !0", "as 6 2 = -1 !0");
        Script.test(check, "34 as: of one that is GONE; it leaves no number in TRACE", THREE, SIX_STONES, "set 1 0 = 1", "flood 9 30 = 1", "as 1 1 = 1", "as 1 2 = -12 !2",
                "trace = 0");
    }

    /** TABLES told until TRACE has wrapped more than once. */
    private static String wraps() {
        StringBuilder lines = new StringBuilder();
        int trace = 0;
        for (int turn = 0; turn < 12; turn++) {
            lines.append("tell 5 = 118\n");
            for (int body : new int[] {3, 2, 1, 1}) {
                trace = (int) (31L * trace + body);
            }
            lines.append("trace = ").append(trace).append("\ntread 2 = 30\n");
            trace = (int) (31L * trace + 5);
            lines.append("trace = ").append(trace).append('\n');
        }
        return lines.toString();
    }

    private static void trace(Check check) {
        Script.test(check, "35 trace: 0 at first, without a BROOK and by one", "trace = 0", THREE, "trace = 0", SIX_STONES, "trace = 0");
        Script.test(check, "35 trace: 31 times it and the number, the last that does not wrap, the first that does", THREE, SIX_STONES, "tell 3 = 9",
                "tell 3 = 9", "tell 3 = 9", "tell 3 = 9", "tell 3 = 9", "tell 3 = 9", "trace = 29583456", "tell 3 = 9", "trace = 917087137", "tell 3 = 9",
                "trace = -1635069824", "tread 5 = 30", "trace = 852443013");
        Script.test(check, "35 trace: it wraps again and again", THREE, SIX_STONES, wraps());
        Script.test(check, "35 trace: calls that tell nothing leave it", THREE, SIX_STONES, "tread 0 = 0", "set 0 0 = 1", "set 2 2 = 1", "walker 3 = 0", "can 0 false = 1",
                "way 0 -1 = 2", "plan 2 0 0 -1 = 2", "orders 3 = 2", "flood 1 1 = 1", "guard 0 true = 1", "water 3 = 0", "row 0 0 1 = 1", "as 1 1 = 1", "trace = 4");
        Script.test(check, "35 trace: it goes on behind another TEXT", THREE, SIX_STONES, "tell 0 = 1", THREE, "trace = 1", "stone 0 1 5 0 = 0", "tell 0 = 5",
                "trace = 32", "text d00 = -103 !0", "trace = 32");
    }

    private static void fault(Check check) {
        Script.test(check, "36 fault: 0 ahead of any call that names one", "fault = 0", "many 0 = 0", "tell 0 = -1 !", "lose 0 = 0", "fault = 0");
        Script.test(check, "36 fault: 1 NULL, 2 CAST, 3 INDEX, 4 SIZE", THREE, "stone 0 1 1 0 = 0", "put 0 0 0 = -11 !1", "fault = 1", "as 0 1 = -12 !2", "fault = 2",
                "put 3 60 0 = -13 !3", "fault = 3", "sheet 0 0 -1 = -14 !4", "fault = 4", "fault = 4");
        String[] well = {"text d000;b000;p0 = 3", "days 0 0 2 0 1 = 1", "odds 0 1 2 0 0 1 = 1", "sheet 2 0 5 = 1", "put 0 0 3 = 1", "cell 0 0 2 = 4", "copy 0 0 1 0 1 = 1",
            "as 0 0 = 1"};
        String[] refused = {"brook 4 0 0 0 = -1 !0", "days 1 0 2 0 1 = -1 !0", "odds 1 1 2 0 0 1 = LOST !0", "sheet 4 0 5 = -1 !0", "put 4 0 3 = -1 !0",
            "cell 4 0 2 = LOST !0", "copy 4 0 1 0 1 = -1 !0", "as 1 0 = -1 !0"};
        String[] outside = {"brook 0 3 0 0 = -2 !0", "days 0 0 3 0 1 = -2 !0", "odds 0 1 2 0 31 1 = LOST !0", "sheet 0 3 5 = -2 !0", "put -1 0 3 = -1 !0",
            "cell 0 0 3 = LOST !0", "copy 0 0 -1 0 1 = -1 !0", "as 0 3 = -2 !0"};
        String state = THREE + "stone 0 1 1 0 = 0\nwalker 9 = 0\nrow 0 2 4 5 = 1\nrow 1 2 1 0 0 0 0 0 0 0 0 0 = 1\n";
        for (int call = 0; call < well.length; call++) {
            String name = well[call].substring(0, well[call].indexOf(' ')).replace("text", "brook");
            String wrong = "as 0 2 = -12 !2\nfault = 2\n";
            Script.test(check, "36 fault: 0 behind " + name + ", if it came to none", state, wrong, well[call], "fault = 0");
            Script.test(check, "36 fault: 0 behind " + name + ", if it was refused", state, wrong, refused[call], "fault = 0", wrong, outside[call], "fault = 0");
        }
        Script.test(check, "36 fault: 0 behind a TEXT that was not taken, and a cell that is no WATER", state, "as 0 2 = -12 !2", "text d0 = -102 !0", "fault = 0",
                "as 0 2 = -12 !2", "put 0 0 10 = 1", "as 0 2 = -12 !2", "days 0 0 2 0 1 = -2 !0", "fault = 0");
    }

    /** Calls that name no FAULTS leave what fault() tells, well or refused. */
    private static void faultKept(Check check) {
        String[] calls = {"ofCell 0 0 = 0", "ofCell 9 0 = -1 !", "guard 0 true = 1", "guard 9 true = -1 !", "water 1 = 0", "water 10 = -2 !", "stone 1 1 1 0 = 1",
            "stone 3 1 1 0 = -2 !", "ofStone 0 0 = 0", "ofStone 9 0 = -1 !", "set 0 1 = 1", "set 9 1 = -1 !", "set 0 0 = -3 !", "work 0 0 = 1", "work 9 0 = -1 !",
            "walker 1 = 1", "walker 0 = -2 !", "stride 0 = 9", "stride 9 = -1 !", "can 0 false = 1", "can 9 false = -1 !", "way 0 0 = 3", "way 0 -2 = -1 !",
            "highest 0 true = 9", "highest 9 true = -1 !", "pass 0 0 = 0", "pass 9 0 = -1 !", "stands 0 0 = 1", "stands 10 0 = -2 !", "goes 0 0 = NONE",
            "goes 9 0 = -1 !", "dug 0 0 0 = 0", "dug 9 0 0 = -1 !", "flood 0 0 = 0", "flood 10 0 = -2 !", "save 0 0 0 = 0", "save 0 0 2 = -2 !",
            "plan 9 0 0 -1 = 0", "plan 0 0 0 -1 = -2 !", "orders 9 = 1", "orders 0 = -2 !", "order 9 0 = 0", "order 9 -1 = -1 !", "fits 1 0 = 1023", "fits 8 0 = -2 !",
            "lose 3 = 1", "lose 4 = -1 !", "tell 0 = 1", "tell 9 = -1 !", "tread 0 = 0", "tread 9 = -1 !", "trace = 0", "many 0 = 3", "many 9 = -2 !", "fault = 4"};
        for (String call : calls) {
            Script.test(check, "36 fault: as it was behind " + call.substring(0, call.indexOf('=')).trim(), THREE, "stone 0 1 1 0 = 0", "walker 9 = 0",
                    "set 0 0 = 1", "sheet 0 0 -1 = -14 !4", call, "fault = 4");
        }
    }

    private static void many(Check check) {
        Script.test(check, "37 many: OUTSIDE: what is 0 .. 6", "many -1 = -2 !", "many 7 = -2 !", "many MIN = -2 !", "many MAX = -2 !", THREE, "many -1 = -2 !",
                "many 7 = -2 !", "many 0 = 3", "many 6 = 0");
        Script.test(check, "37 many: 0 CELLS: 3, 7, and as they were", THREE, "many 0 = 3", "text d0000000;b0000000;p0 = 7", "many 0 = 7", "text d00 = -103 !0", "many 0 = 7",
                THREE, "many 0 = 3");
        Script.test(check, "37 many: 1 STONES: none, one, six, GONE ones, too", THREE, "many 1 = 0", "stone 0 1 1 0 = 0", "many 1 = 1", THREE, SIX_STONES, "many 1 = 6",
                "set 0 0 = 1", "flood 9 30 = 1", "many 1 = 6", "stone 0 1 1 0 = -4 !", "many 1 = 6");
        Script.test(check, "37 many: 2 WALKERS: none, one, six", THREE, "many 2 = 0", "walker 1 = 0", "many 2 = 1", "walker 2 = 1", "walker 3 = 2", "walker 4 = 3",
                "walker 5 = 4", "walker 6 = 5", "many 2 = 6", "walker 7 = -4 !", "many 2 = 6");
        Script.test(check, "37 many: 3 STONES that are SET: none, one, six, moved, taken up, GONE", "text d0000000;b0000000;p0 = 7", SIX_STONES, "many 3 = 0",
                "set 0 0 = 1", "many 3 = 1", "set 1 1 = 1", "set 2 2 = 1", "set 3 3 = 1", "set 4 4 = 1", "set 5 5 = 1", "many 3 = 6", "set 5 6 = 1", "many 3 = 6",
                "set 5 NONE = 1", "many 3 = 5", "flood 9 30 = 5", "many 3 = 0");
        Script.test(check, "37 many: 4 GONE ones: none, one, six, by two FLOODS", "text d0000000;b0000000;p0 = 7", SIX_STONES, "many 4 = 0", "set 0 0 = 1",
                "flood 9 30 = 1", "many 4 = 1", "set 1 1 = 1", "set 2 2 = 1", "set 3 3 = 1", "set 4 4 = 1", "set 5 5 = 1", "many 4 = 1", "flood 9 30 = 5", "many 4 = 6");
        Script.test(check, "37 many: 5 GUARDED CELLS: none, one, seven, six", "text d0000000;b0000000;p0 = 7", "many 5 = 0", "guard 6 true = 1", "many 5 = 1",
                "guard 0 true = 1", "guard 1 true = 1", "guard 2 true = 1", "guard 3 true = 1", "guard 4 true = 1", "guard 5 true = 1", "many 5 = 7", "guard 6 true = 0",
                "many 5 = 7", "guard 6 false = 1", "many 5 = 6", THREE, "many 5 = 0");
        Script.test(check, "37 many: 6 WATER: 0, 9, anew", THREE, "many 6 = 0", "water 9 = 0", "many 6 = 9", "water 10 = -2 !", "many 6 = 9", "water 1 = 9", "many 6 = 1",
                THREE, "many 6 = 0");
    }
}
