/** Promises 23 to 26: each sentence that names a boundary, in a test of its own. */
final class EdgesOfOrders {
    private static final String THREE = "text d000;b000;p0 = 3\n";
    private static final String FOUR = "text d0000;b0000;p0 = 4\n";
    private static final String SEVEN = "text d0000000;b0000000;p0 = 7\n";

    private EdgesOfOrders() { }

    static void all(Check check) {
        ordersRefused(check);
        orders(check);
        ordersByTables(check);
        ordersByDry(check);
        orderRefused(check);
        order(check);
        fits(check);
        fitsRefused(check);
        odds(check);
        oddsBehindFloods(check);
        oddsRefused(check);
        oddsFaults(check);
    }

    /** STONES of one kind in these CELLS. */
    private static String stones(int kind, int... cells) {
        StringBuilder lines = new StringBuilder();
        for (int s = 0; s < cells.length; s++) {
            lines.append("stone ").append(kind).append(" 1 1 0 = ").append(s).append('\n');
            lines.append("set ").append(s).append(' ').append(cells[s]).append(" = 1\n");
        }
        return lines.toString();
    }

    private static void ordersRefused(Check check) {
        Script.test(check, "23 orders: OUTSIDE: STRIDES are 1 .. 9", THREE, stones(0, 0), "orders 0 = -2 !", "orders 10 = -2 !", "orders -1 = -2 !",
                "orders MIN = -2 !", "orders MAX = -2 !", "orders 1 = 1", "orders 9 = 1");
        Script.test(check, "23 orders: STATE: there is no BROOK; OUTSIDE is ahead of it", "orders 1 = -3 !", "orders 9 = -3 !", "orders 0 = -2 !",
                "orders 10 = -2 !");
    }

    private static void orders(Check check) {
        Script.test(check, "23 orders: none is SET: the one ORDER of none", THREE, "orders 1 = 1", "orders 9 = 1", "stone 0 1 1 0 = 0", "orders 1 = 1",
                "set 0 2 = 1", "orders 1 = 0", "set 0 NONE = 1", "orders 1 = 1", "set 0 0 = 1", "flood 9 30 = 1", "orders 1 = 1");
        Script.test(check, "23 orders: one: no farther than the STRIDE from the near bank", SEVEN, stones(0, 0), "orders 1 = 1", "set 0 1 = 1",
                "orders 1 = 0", "orders 2 = 1", "set 0 6 = 1", "orders 6 = 0", "orders 7 = 1", "orders 9 = 1");
        Script.test(check, "23 orders: two: the other from the one that is laid ahead", FOUR, stones(0, 0, 2), "orders 1 = 0", "orders 2 = 1",
                "orders 3 = 2", "orders 4 = 2", "set 1 3 = 1", "orders 2 = 0", "orders 3 = 1", "orders 4 = 2", "set 0 2 = 1", "orders 1 = 0",
                "orders 2 = 0", "orders 3 = 1", "orders 4 = 2");
        Script.test(check, "23 orders: of a row of six by 1, by 2, by all", "text d000000;b000000;p0 = 6", stones(0, 0, 1, 2, 3, 4, 5),
                "orders 1 = 1", "orders 2 = 76", "orders 5 = 600", "orders 6 = 720", "orders 9 = 720", "set 0 NONE = 1", "orders 1 = 0");
        Script.test(check, "23 orders: six in seven CELLS", SEVEN, stones(0, 0, 1, 2, 3, 4, 6), "orders 1 = 0", "orders 7 = 720", "orders 6 = 600",
                "set 0 5 = 1", "orders 1 = 0", "orders 2 = 26", "orders 9 = 720");
        Script.test(check, "23 orders: not from the far bank", THREE, stones(0, 2), "orders 1 = 0", "orders 2 = 0", "orders 3 = 1");
        Script.test(check, "23 orders: back from one laid farther, too", THREE, stones(0, 0, 1, 2), "orders 2 = 4", "orders 3 = 6", "orders 1 = 1");
        Script.test(check, "23 orders: those that are SET alone, wherever they lie", THREE, "stone 0 1 1 9 = 0", "stone 0 1 1 0 = 1", "set 0 0 = 1",
                "orders 1 = 1", "set 1 1 = 1", "orders 1 = 1", "orders 2 = 2");
    }

    private static void ordersByTables(Check check) {
        Script.test(check, "23 orders: EASE of the STONE that is being laid", SEVEN, stones(2, 6), "orders 5 = 0", "orders 6 = 1", "set 0 1 = 1",
                "orders 1 = 1", "set 0 2 = 1", "orders 1 = 0", "orders 2 = 1");
        Script.test(check, "23 orders: no EASE of a STONE, of a FLAT", SEVEN, stones(0, 1), "orders 1 = 0", "orders 2 = 1", "stone 1 1 1 0 = 1",
                "set 0 NONE = 1", "set 1 1 = 1", "orders 1 = 0", "orders 2 = 1");
        Script.test(check, "23 orders: EASE of the STONE that was laid ahead", THREE, "stone 2 1 1 0 = 0", "stone 0 1 1 0 = 1", "set 0 0 = 1", "set 1 2 = 1",
                "orders 1 = 1", "orders 2 = 1", "orders 3 = 2", "set 0 NONE = 1", "stone 1 1 1 0 = 2", "set 2 0 = 1", "orders 1 = 0", "orders 2 = 1");
        Script.test(check, "23 orders: EASE of both", "text d00000;b00000;p0 = 5", stones(2, 0, 3), "orders 1 = 1", "orders 2 = 1", "orders 3 = 2",
                "set 1 4 = 1", "orders 1 = 0", "orders 2 = 1", "orders 3 = 1", "orders 4 = 2");
    }

    private static void ordersByDry(Check check) {
        Script.test(check, "23 orders: one that is not DRY is laid, but not stood on", "text d010;b000;p0 = 3", stones(0, 1), "orders 1 = 0", "orders 2 = 1",
                "stone 0 1 1 0 = 1", "set 1 2 = 1", "orders 2 = 0", "orders 3 = 2", "stone 0 2 1 0 = 2", "set 0 NONE = 1", "set 2 1 = 1", "orders 2 = 1",
                "water 1 = 0", "orders 2 = 0", "orders 3 = 2");
        Script.test(check, "23 orders: by WATER as it is: none is stood on", "text d000000;b000000;p0 = 6", stones(0, 0, 1, 2, 3, 4, 5), "water 1 = 0",
                "orders 5 = 0", "orders 6 = 720", "water 0 = 1", "orders 5 = 600");
        Script.test(check, "23 orders: EASE of a TABLE that is being laid counts also if it is not DRY", THREE, stones(2, 1), "water 9 = 0",
                "orders 1 = 1", "stone 0 1 1 0 = 1", "set 1 2 = 1", "orders 1 = 0", "orders 2 = 0", "orders 3 = 2");
    }

    private static void orderRefused(Check check) {
        String wrong = """
            order 0 Q = -2 !
            order 10 Q = -2 !
            order -1 Q = -2 !
            order MIN Q = -2 !
            order MAX Q = -2 !
            """;
        Script.test(check, "24 order: OUTSIDE: STRIDES are 1 .. 9; it is ahead of UNKNOWN", THREE, stones(0, 0), wrong.replace("Q", "0"),
                wrong.replace("Q", "-1"), "order 1 0 = 0", "order 9 0 = 0");
        Script.test(check, "24 order: UNKNOWN: q below 0", THREE, stones(0, 0), "order 1 -1 = -1 !", "order 1 MIN = -1 !", "order 1 NONE = -1 !",
                "order 1 0 = 0", "order 1 MAX = NONE");
        Script.test(check, "24 order: STATE: there is no BROOK; OUTSIDE, UNKNOWN are ahead of it", "order 1 0 = -3 !", "order 9 MAX = -3 !",
                "order 1 -1 = -1 !", "order 9 MIN = -1 !", wrong.replace("Q", "0"), wrong.replace("Q", "-1"));
    }

    private static void order(Check check) {
        Script.test(check, "24 order: none is SET: NONE", THREE, "order 1 0 = NONE", "order 9 0 = NONE", "order 9 6 = NONE", "stone 0 1 1 0 = 0",
                "order 9 0 = NONE");
        Script.test(check, "24 order: one: its CELL, then NONE", SEVEN, stones(0, 6), "order 7 0 = 6", "order 7 1 = NONE", "order 6 0 = NONE",
                "order 6 1 = NONE");
        Script.test(check, "24 order: six: the sixth is the last", SEVEN, stones(0, 6, 4, 3, 2, 1, 0), "order 9 0 = 0", "order 9 1 = 1", "order 9 2 = 2",
                "order 9 3 = 3", "order 9 4 = 4", "order 9 5 = 6", "order 9 6 = NONE", "order 9 7 = NONE", "order 2 5 = 6", "order 1 0 = NONE",
                "order 1 5 = NONE");
        Script.test(check, "24 order: there is none: NONE for each q", FOUR, stones(0, 0, 3), "order 2 0 = NONE", "order 2 1 = NONE", "order 3 0 = 0",
                "order 3 1 = 3", "order 3 2 = NONE");
        Script.test(check, "24 order: CELLS, not STONES; the first as a row", FOUR, stones(0, 3, 2, 1), "order 9 0 = 1", "order 9 1 = 2", "order 9 2 = 3",
                "order 2 0 = 1", "order 2 1 = 2", "order 2 2 = 3");
        Script.test(check, "24 order: a farther CELL first, if the nearer one needs it", "text d00000;b00000;p0 = 5", "stone 2 1 1 0 = 0",
                "stone 0 1 1 0 = 1", "set 0 2 = 1", "set 1 1 = 1", "order 2 0 = 1", "order 2 1 = 2", "set 1 4 = 1", "order 2 0 = 2", "order 2 1 = 4",
                "set 0 3 = 1", "set 1 2 = 1", "order 3 0 = 2", "order 3 1 = 3");
        Script.test(check, "24 order: a TABLE is nearer than a STONE ahead of it", THREE, "stone 2 1 1 0 = 0", "stone 0 1 1 0 = 1", "set 0 2 = 1",
                "set 1 1 = 1", "order 2 0 = 1", "water 1 = 0", "order 2 0 = 1", "order 2 1 = 2", "order 1 0 = NONE");
        Script.test(check, "24 order: the nearer one behind the farther one, which alone is near", "text d90000;b00000;p0 = 5", "stone 2 5 1 0 = 0",
                "stone 0 5 1 0 = 1", "stone 0 5 1 0 = 2", "set 0 1 = 1", "set 1 0 = 1", "set 2 2 = 1", "order 1 0 = 0", "order 1 1 = 1", "order 1 2 = 2",
                "set 1 4 = 1", "order 2 0 = 1", "order 2 1 = 2", "order 2 2 = 4", "order 1 0 = NONE");
    }

    private static void fits(Check check) {
        Script.test(check, "25 fits: no STONES: the empty set, by all f", THREE, "fits 0 0 = 1023", "fits 0 30 = 1023", "fits 1 0 = 0", "fits 7 30 = 0");
        Script.test(check, "25 fits: behind 0 ROUNDS just what is SET", THREE, stones(0, 0, 2), "fits 5 0 = 1023", "fits 0 0 = 0", "fits 1 0 = 0",
                "fits 4 0 = 0", "fits 7 0 = 0", "set 1 1 = 1", "fits 3 0 = 1023", "fits 5 0 = 0");
        Script.test(check, "25 fits: f 0 alone, f 9 alone, all but f 0, none", "text d000;b080;p0 = 3", stones(0, 0), "fits 1 1 = 1", "fits 0 1 = 1022",
                "fits 2 1 = 0", "set 0 1 = 1", "fits 0 1 = 512", "fits 2 1 = 511", "fits 2 30 = 511", "fits 0 0 = 0", "fits 2 0 = 1023");
        Script.test(check, "25 fits: ROUNDS 1, 30: a TABLE that goes sooner or later", THREE, "stone 2 1 9 0 = 0", "set 0 2 = 1", "fits 4 1 = 1023",
                "fits 4 2 = 63", "fits 0 2 = 960", "fits 4 11 = 3", "fits 4 12 = 1", "fits 4 30 = 1", "fits 0 30 = 1022");
        Script.test(check, "25 fits: six of seven CELLS, the last one, too", SEVEN, stones(0, 0, 2, 4, 6), "stone 0 1 9 0 = 4", "stone 0 1 9 0 = 5",
                "fits 85 0 = 1023", "fits 85 30 = 1", "set 4 1 = 1", "set 5 5 = 1", "fits 119 0 = 1023", "fits 34 1 = 127", "fits 0 1 = 896",
                "fits 119 1 = 0", "fits 34 30 = 1", "fits 127 0 = 0");
        Script.test(check, "25 fits: of what is SET now, GUARDED as it is", THREE, stones(0, 1), "guard 1 true = 1", "fits 2 30 = 3", "fits 0 30 = 1020",
                "guard 1 false = 1", "fits 2 30 = 1", "set 0 NONE = 1", "fits 0 30 = 1023", "set 0 1 = 1", "flood 9 9 = 1", "fits 0 30 = 1023",
                "fits 2 0 = 0");
    }

    private static void fitsRefused(Check check) {
        Script.test(check, "25 fits: OUTSIDE: a bit of none: CELLS are 0 .. 2", THREE, stones(0, 2), "fits 4 0 = 1023", "fits 8 0 = -2 !",
                "fits 12 0 = -2 !", "fits 7 0 = 0", "fits 15 0 = -2 !", "fits -1 0 = -2 !", "fits -8 0 = -2 !", "fits MIN 0 = -2 !",
                "fits MAX 0 = -2 !", "fits NONE 0 = -2 !", "fits 65536 0 = -2 !");
        Script.test(check, "25 fits: OUTSIDE: a bit of none: CELLS are 0 .. 6", SEVEN, stones(0, 6), "fits 64 0 = 1023", "fits 128 0 = -2 !",
                "fits 192 0 = -2 !", "fits 127 0 = 0", "fits 255 0 = -2 !");
        Script.test(check, "25 fits: OUTSIDE: ROUNDS are 0 .. 30", THREE, "fits 0 -1 = -2 !", "fits 0 0 = 1023", "fits 0 30 = 1023", "fits 0 31 = -2 !",
                "fits 0 MIN = -2 !", "fits 0 MAX = -2 !", "fits 8 31 = -2 !");
        Script.test(check, "25 fits: STATE: there is no BROOK; OUTSIDE is ahead of it", "fits 0 0 = -3 !", "fits 0 30 = -3 !", "fits 1 0 = -2 !",
                "fits MIN 0 = -2 !", "fits -1 0 = -2 !", "fits 0 -1 = -2 !", "fits 0 31 = -2 !", "fits 1 31 = -2 !");
    }

    /** The share by ten weights of SHEET 0 (bytes) from i on. */
    private static String share(int walker, int i, int rounds, int upper, int lower) {
        String call = "odds " + walker + " 0 0 " + i + " " + rounds;
        return call + " 0 = " + upper + "\n" + call + " 1 = " + lower + "\n";
    }

    private static final String BY_ONE = THREE + stones(0, 1) + "walker 2 = 0\n";

    private static void odds(Check check) {
        Script.test(check, "26 odds: in least terms: 1 of 10, 1 of 2, 99 of 100, 98 of 989", BY_ONE, "row 0 0 1 1 1 1 1 1 1 1 1 1 = 1", share(0, 0, 1, 1, 10),
                "row 0 0 5 0 0 0 0 0 0 0 0 5 = 1", share(0, 0, 1, 1, 2), "row 0 0 6 4 0 0 0 0 0 0 0 0 = 1", share(0, 0, 1, 3, 5),
                "row 0 0 99 1 0 0 0 0 0 0 0 0 = 1", share(0, 0, 1, 99, 100), "row 0 0 98 99 99 99 99 99 99 99 99 99 = 1", share(0, 0, 1, 98, 989));
        Script.test(check, "26 odds: 0 of 1, 1 of 1", BY_ONE, "walker 9 = 1", "walker 1 = 2", "row 0 0 0 99 99 99 99 99 99 99 99 99 = 1",
                share(0, 0, 1, 0, 1), share(0, 0, 0, 1, 1), share(1, 0, 30, 1, 1), share(2, 0, 0, 0, 1), share(2, 0, 30, 0, 1));
        Script.test(check, "26 odds: the greatest weights: ten of 99", BY_ONE, "walker 9 = 1", "row 0 0 99 99 99 99 99 99 99 99 99 99 = 1",
                share(0, 0, 1, 1, 10), share(0, 0, 0, 1, 1), share(1, 0, 30, 1, 1));
        Script.test(check, "26 odds: one weight alone, of f 0 or of f 9", BY_ONE, "row 0 0 1 0 0 0 0 0 0 0 0 0 0 1 = 1", share(0, 0, 1, 1, 1),
                share(0, 2, 1, 0, 1), share(0, 2, 0, 1, 1), "row 0 0 99 0 0 0 0 0 0 0 0 0 0 99 = 1", share(0, 0, 1, 1, 1), share(0, 2, 1, 0, 1));
        Script.test(check, "26 odds: ten cells from i on, the last ten of 60, too", BY_ONE, "sheet 0 0 60 = 1", "put 0 50 3 = 1", "put 0 51 1 = 1",
                "put 0 49 99 = 1", share(0, 50, 1, 3, 4), share(0, 49, 1, 99, 103), share(0, 41, 1, 0, 1), "odds 0 0 0 51 1 0 = LOST !3", share(0, 42, 1, 0, 1));
        for (int sort = 0; sort < 3; sort++) {
            String call = "odds 0 " + (sort + 1) + " " + sort + " 0 1 ";
            Script.test(check, "26 odds: of SHEET " + (sort + 1) + ", of SORT " + sort, BY_ONE,
                    "row " + (sort + 1) + " " + sort + " 2 0 0 1 0 0 0 0 0 0 = 1", call + "0 = 2", call + "1 = 3");
        }
    }

    private static void oddsBehindFloods(Check check) {
        String weights = "row 0 0 1 2 4 8 16 32 3 5 7 11 = 1\n";
        Script.test(check, "26 odds: behind ROUNDS of each f: 0, 1, 30", "text d000;b040;p0 = 3", stones(0, 1), "walker 2 = 0", weights,
                share(0, 0, 0, 1, 1), share(0, 0, 1, 31, 89), share(0, 0, 30, 31, 89), "text d000;b080;p0 = 3", stones(0, 1), "walker 2 = 0",
                share(0, 0, 30, 78, 89));
        Script.test(check, "26 odds: by WATER as it is, without a PAIL, GUARDED as it is", BY_ONE, weights, share(0, 0, 1, 1, 89), "guard 1 true = 1",
                share(0, 0, 1, 3, 89), "can 0 true = 0", "water 1 = 0", share(0, 0, 1, 0, 1), share(0, 0, 0, 0, 1), "many 6 = 1");
        Script.test(check, "26 odds: each WALKER by its own STRIDE", BY_ONE, weights, "walker 4 = 1", "walker 3 = 2", "walker 1 = 3", share(1, 0, 1, 1, 1),
                share(2, 0, 1, 1, 89), share(3, 0, 1, 0, 1), "set 0 2 = 1", share(0, 0, 0, 0, 1), share(2, 0, 0, 1, 1));
    }

    private static final String ONES = "row 0 0 1 1 1 1 1 1 1 1 1 1 = 1\n";

    private static void oddsRefused(Check check) {
        Script.test(check, "26 odds: UNKNOWN: no WALKER, then 0 alone", THREE, ONES, "odds 0 0 0 0 0 0 = LOST !0", "walker 4 = 0", """
            odds 0 0 0 0 0 0 = 1
            odds 1 0 0 0 0 0 = LOST !0
            odds -1 0 0 0 0 0 = LOST !0
            odds MIN 0 0 0 0 0 = LOST !0
            odds MAX 0 0 0 0 0 = LOST !0
            """);
        Script.test(check, "26 odds: UNKNOWN: SHEETS are 0 .. 3", BY_ONE, ONES.replace("row 0", "row 3"), "odds 0 4 0 0 0 0 = LOST !0",
                "odds 0 -1 0 0 0 0 = LOST !0", "odds 0 MIN 0 0 0 0 = LOST !0", "odds 0 MAX 0 0 0 0 = LOST !0", "odds 0 3 0 0 0 0 = 1");
        Script.test(check, "26 odds: OUTSIDE: SORTS are 0 .. 2", BY_ONE, ONES, "odds 0 0 -1 0 0 0 = LOST !0", "odds 0 0 3 0 0 0 = LOST !0",
                "odds 0 0 MIN 0 0 0 = LOST !0", "odds 0 0 MAX 0 0 0 = LOST !0", "odds 0 0 0 0 0 0 = 1");
        Script.test(check, "26 odds: OUTSIDE: a weight is 0 .. 99: the first one, the last one", BY_ONE,
                "row 0 1 100 99 0 0 0 0 0 0 0 0 0 -1 1 1 1 1 1 1 1 1 1 100 = 1", """
            odds 0 0 1 0 0 0 = LOST !0
            odds 0 0 1 1 0 0 = 1
            odds 0 0 1 2 0 0 = LOST !0
            odds 0 0 1 11 0 0 = LOST !0
            odds 0 0 1 12 0 0 = LOST !0
            """);
        Script.test(check, "26 odds: OUTSIDE: a weight that is far beyond", BY_ONE, "row 0 2 1 1 1 1 1 1 1 1 1 MAX = 1", "odds 0 0 2 0 0 0 = LOST !0",
                "put 0 9 MIN = 1", "odds 0 0 2 0 0 0 = LOST !0", "put 0 9 -1 = 1", "odds 0 0 2 0 0 0 = LOST !0", "put 0 9 0 = 1", "odds 0 0 2 0 0 0 = 1");
        Script.test(check, "26 odds: OUTSIDE: all are 0", BY_ONE, "sheet 0 0 11 = 1", "put 0 10 1 = 1", "odds 0 0 0 0 0 0 = LOST !0",
                "odds 0 0 0 0 0 1 = LOST !0", "odds 0 0 0 1 0 1 = 1");
        Script.test(check, "26 odds: OUTSIDE: ROUNDS are 0 .. 30, which 0 or 1", BY_ONE, ONES, """
            odds 0 0 0 0 -1 0 = LOST !0
            odds 0 0 0 0 31 0 = LOST !0
            odds 0 0 0 0 MIN 0 = LOST !0
            odds 0 0 0 0 MAX 1 = LOST !0
            odds 0 0 0 0 0 -1 = LOST !0
            odds 0 0 0 0 0 2 = LOST !0
            odds 0 0 0 0 0 MIN = LOST !0
            odds 0 0 0 0 0 MAX = LOST !0
            odds 0 0 0 0 30 0 = 1
            odds 0 0 0 0 30 1 = 10
            odds 0 0 0 0 0 1 = 1
            """);
    }

    private static void oddsFaults(Check check) {
        Script.test(check, "26 odds: CAST: each SORT but its own; nothing is no CAST, but NULL", BY_ONE, ONES, ONES.replace("row 0 0", "row 1 1"),
                ONES.replace("row 0 0", "row 2 2"), """
            lose 3 = 1
            odds 0 0 0 0 0 0 = 1
            odds 0 0 1 0 0 0 = LOST !2
            odds 0 0 2 0 0 0 = LOST !2
            odds 0 1 0 0 0 0 = LOST !2
            odds 0 1 1 0 0 0 = 1
            odds 0 1 2 0 0 0 = LOST !2
            odds 0 2 0 0 0 0 = LOST !2
            odds 0 2 1 0 0 0 = LOST !2
            odds 0 2 2 0 0 0 = 1
            odds 0 3 0 0 0 0 = LOST !1
            odds 0 3 1 0 0 0 = LOST !1
            odds 0 3 2 0 0 0 = LOST !1
            """);
        Script.test(check, "26 odds: INDEX: not all ten are there", BY_ONE, "row 0 0 1 1 1 1 1 1 1 1 1 1 1 = 1", "row 1 0 1 1 1 1 1 1 1 1 1 = 1", """
            odds 0 0 0 -1 0 0 = LOST !3
            odds 0 0 0 0 0 0 = 1
            odds 0 0 0 1 0 0 = 1
            odds 0 0 0 2 0 0 = LOST !3
            odds 0 0 0 11 0 0 = LOST !3
            odds 0 0 0 12 0 0 = LOST !3
            odds 0 0 0 MIN 0 0 = LOST !3
            odds 0 0 0 MAX 0 0 = LOST !3
            odds 0 1 0 0 0 0 = LOST !3
            odds 0 1 0 9 0 0 = LOST !3
            sheet 2 0 0 = 1
            odds 0 2 0 0 0 0 = LOST !3
            """);
        Script.test(check, "26 odds: two at once: the first that is told", BY_ONE, "row 0 1 100 0 0 0 0 0 0 0 0 0 0 = 1", """
            odds 1 1 0 0 0 0 = LOST !0
            odds 1 0 0 0 0 0 = LOST !0
            odds 1 0 1 9 0 0 = LOST !0
            odds 0 4 0 9 0 0 = LOST !0
            odds 0 1 3 0 0 0 = LOST !0
            odds 0 0 3 9 0 0 = LOST !0
            odds 0 0 0 9 0 0 = LOST !2
            odds 0 0 2 -1 31 2 = LOST !2
            odds 0 0 0 0 31 0 = LOST !2
            odds 0 1 0 9 0 0 = LOST !1
            odds 0 1 1 0 31 2 = LOST !1
            odds 0 0 1 9 31 0 = LOST !3
            odds 0 0 1 2 0 2 = LOST !3
            odds 0 0 1 0 31 2 = LOST !0
            odds 0 0 1 1 31 2 = LOST !0
            """);
    }
}
