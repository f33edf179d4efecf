/** Promises 27 to 31: each sentence that names a boundary, in a test of its own. */
final class EdgesOfSheets {
    private EdgesOfSheets() { }

    static void all(Check check) {
        sheet(check);
        sheetRefused(check);
        lose(check);
        put(check);
        putRefused(check);
        cell(check);
        cellRefused(check);
        copy(check);
        copyToItself(check);
        copyRefused(check);
        copyFaults(check);
    }

    /** What a SHEET has, cell by cell, and that there is no more. */
    private static String holds(int k, int sort, long... cells) {
        StringBuilder lines = new StringBuilder();
        for (int i = 0; i < cells.length; i++) {
            lines.append("cell ").append(k).append(' ').append(i).append(' ').append(sort).append(" = ").append(cells[i]).append('\n');
        }
        return lines.append("cell ").append(k).append(' ').append(cells.length).append(' ').append(sort).append(" = LOST !3\n").toString();
    }

    private static void sheet(Check check) {
        Script.test(check, "27 sheet: n is 0 .. 60: none, one, 60, not 61", """
            sheet 0 0 0 = 1
            cell 0 0 0 = LOST !3
            sheet 0 0 1 = 1
            cell 0 0 0 = 0
            cell 0 1 0 = LOST !3
            sheet 0 0 60 = 1
            cell 0 59 0 = 0
            cell 0 60 0 = LOST !3
            sheet 0 0 61 = -2 !0
            cell 0 59 0 = 0
            cell 0 60 0 = LOST !3
            """);
        Script.test(check, "27 sheet: SHEETS are 0 .. 3, each has its own row", "row 0 0 1 2 = 1", "row 3 2 7 = 1", "row 1 1 5 6 4 = 1", "sheet 2 0 0 = 1",
                holds(0, 0, 1, 2), holds(1, 1, 5, 6, 4), holds(2, 0), holds(3, 2, 7), "sheet 1 0 1 = 1", holds(0, 0, 1, 2), holds(1, 0, 0),
                holds(3, 2, 7));
        Script.test(check, "27 sheet: SORTS are 0 .. 2", "sheet 0 0 1 = 1", "put 0 0 65535 = 1", holds(0, 0, -1), "sheet 0 1 1 = 1", "put 0 0 65537 = 1",
                holds(0, 1, 1), "sheet 0 2 1 = 1", "put 0 0 65537 = 1", holds(0, 2, 65537));
        Script.test(check, "27 sheet: a new row: all are 0 at first, also those that were there", "row 0 2 1 2 3 = 1", "sheet 0 2 3 = 1",
                holds(0, 2, 0, 0, 0), "row 0 2 1 2 3 = 1", "sheet 0 2 2 = 1", "sheet 0 2 3 = 1", holds(0, 2, 0, 0, 0), "row 0 2 1 2 3 = 1",
                "lose 0 = 1", "sheet 0 2 3 = 1", holds(0, 2, 0, 0, 0));
        Script.test(check, "27 sheet: a new row of another SORT", "row 0 2 300 2 = 1", "sheet 0 0 1 = 1", "cell 0 0 2 = LOST !2", holds(0, 0, 0),
                "put 0 0 300 = 1", holds(0, 0, 44), "sheet 0 0 1 = 1", holds(0, 0, 0));
        Script.test(check, "27 sheet: the last cells of each of four rows of 60", fourOfSixty(), "cell 0 0 2 = 100", "cell 0 59 2 = 159", "cell 1 0 2 = 200",
                "cell 1 59 2 = 259", "cell 2 0 2 = 300", "cell 2 59 2 = 359", "cell 3 0 2 = 400", "cell 3 59 2 = 459", "sheet 1 2 60 = 1", "cell 0 59 2 = 159",
                "cell 1 0 2 = 0", "cell 1 59 2 = 0", "cell 2 0 2 = 300");
    }

    private static String fourOfSixty() {
        StringBuilder lines = new StringBuilder();
        for (int k = 0; k < 4; k++) {
            lines.append("sheet ").append(k).append(" 2 60 = 1\n");
            for (int i = 0; i < 60; i += 59) {
                lines.append("put ").append(k).append(' ').append(i).append(' ').append(100 * k + 100 + i).append(" = 1\n");
            }
        }
        return lines.toString();
    }

    private static void sheetRefused(Check check) {
        Script.test(check, "27 sheet: UNKNOWN: SHEETS are 0 .. 3", "row 3 0 9 = 1", "row 0 0 8 = 1", "sheet -1 0 1 = -1 !0", "sheet 4 0 1 = -1 !0",
                "sheet MIN 0 1 = -1 !0", "sheet MAX 0 1 = -1 !0", "sheet NONE 0 1 = -1 !0", holds(3, 0, 9), holds(0, 0, 8), "sheet 3 0 0 = 1",
                "sheet 0 0 0 = 1");
        Script.test(check, "27 sheet: OUTSIDE: SORTS are 0 .. 2", "row 1 0 9 = 1", "sheet 1 -1 1 = -2 !0", "sheet 1 3 1 = -2 !0", "sheet 1 MIN 1 = -2 !0",
                "sheet 1 MAX 1 = -2 !0", holds(1, 0, 9), "sheet 1 2 0 = 1");
        Script.test(check, "27 sheet: OUTSIDE: n above 60", "row 1 0 9 = 1", "sheet 1 0 61 = -2 !0", "sheet 1 0 MAX = -2 !0", "sheet 2 0 61 = -2 !0",
                "cell 2 0 0 = LOST !1", holds(1, 0, 9), "sheet 1 0 60 = 1");
        Script.test(check, "27 sheet: SIZE: n below 0, not 0", "row 1 0 9 = 1", "sheet 1 0 -1 = -14 !4", "sheet 1 0 MIN = -14 !4", "sheet 2 0 -1 = -14 !4",
                "cell 2 0 0 = LOST !1", holds(1, 0, 9), "sheet 1 0 0 = 1");
        Script.test(check, "27 sheet: two at once: the first that is told", """
            sheet 4 3 1 = -1 !0
            sheet -1 0 61 = -1 !0
            sheet 4 0 -1 = -1 !0
            sheet 4 3 -1 = -1 !0
            sheet 0 3 61 = -2 !0
            sheet 0 3 -1 = -2 !0
            sheet 0 -1 MIN = -2 !0
            sheet 0 2 -1 = -14 !4
            """);
    }

    private static void lose(Check check) {
        Script.test(check, "28 lose: UNKNOWN: SHEETS are 0 .. 3", "row 0 0 8 = 1", "row 3 0 9 = 1", "lose -1 = -1 !", "lose 4 = -1 !", "lose MIN = -1 !",
                "lose MAX = -1 !", "lose NONE = -1 !", holds(0, 0, 8), holds(3, 0, 9), "lose 0 = 1", "lose 3 = 1");
        Script.test(check, "28 lose: 1; 0: it had nothing", """
            lose 0 = 0
            sheet 0 0 3 = 1
            lose 0 = 1
            lose 0 = 0
            cell 0 0 0 = LOST !1
            put 0 0 0 = -11 !1
            sheet 0 1 0 = 1
            lose 0 = 1
            lose 0 = 0
            """);
        Script.test(check, "28 lose: a row of no cells is something", "sheet 2 0 0 = 1", "cell 2 0 0 = LOST !3", "lose 2 = 1", "cell 2 0 0 = LOST !1");
        Script.test(check, "28 lose: the other SHEETS keep theirs", "row 0 0 1 = 1", "row 1 0 2 = 1", "row 2 0 3 = 1", "row 3 0 4 = 1", "lose 1 = 1",
                holds(0, 0, 1), "cell 1 0 0 = LOST !1", holds(2, 0, 3), holds(3, 0, 4));
        Script.test(check, "28 lose: a BROOK stays without its TEXT", "text d345;b012;p3 = 3", "lose 3 = 1", "many 0 = 3", "ofCell 2 0 = 5");
    }

    private static void put(Check check) {
        Script.test(check, "29 put: bytes: -128 .. 127 stay, the next ones are cut with their sign", "sheet 0 0 9 = 1",
                puts(0, 127, 128, -128, -129, 255, 256, -1, 0, 65535), holds(0, 0, 127, -128, -128, 127, -1, 0, -1, 0, -1));
        Script.test(check, "29 put: shorts: -32768 .. 32767 stay, the next ones are cut with their sign", "sheet 0 1 9 = 1",
                puts(0, 32767, 32768, -32768, -32769, 65535, 65536, -1, 0, 128), holds(0, 1, 32767, -32768, -32768, 32767, -1, 0, -1, 0, 128));
        Script.test(check, "29 put: ints stay, the least and the greatest", "sheet 0 2 7 = 1", puts(0, Integer.MAX_VALUE, Integer.MIN_VALUE, 32768, -32769, -1, 0, 65536),
                holds(0, 2, Integer.MAX_VALUE, Integer.MIN_VALUE, 32768, -32769, -1, 0, 65536));
        Script.test(check, "29 put: the least and the greatest int as bytes, as shorts", "sheet 0 0 2 = 1", puts(0, Integer.MAX_VALUE, Integer.MIN_VALUE),
                holds(0, 0, -1, 0), "sheet 0 1 2 = 1", puts(0, Integer.MAX_VALUE, Integer.MIN_VALUE), holds(0, 1, -1, 0));
        Script.test(check, "29 put: one cell alone, again, in each SHEET", "sheet 0 0 3 = 1", "sheet 1 0 3 = 1", "sheet 2 0 3 = 1", "sheet 3 0 3 = 1",
                "put 0 0 1 = 1", "put 1 1 2 = 1", "put 2 2 3 = 1", "put 3 1 4 = 1", "put 3 1 5 = 1", holds(0, 0, 1, 0, 0), holds(1, 0, 0, 2, 0),
                holds(2, 0, 0, 0, 3), holds(3, 0, 0, 5, 0));
    }

    private static String puts(int k, int... values) {
        StringBuilder lines = new StringBuilder();
        for (int i = 0; i < values.length; i++) {
            lines.append("put ").append(k).append(' ').append(i).append(' ').append(values[i]).append(" = 1\n");
        }
        return lines.toString();
    }

    private static void putRefused(Check check) {
        Script.test(check, "29 put: UNKNOWN: SHEETS are 0 .. 3", "sheet 3 0 1 = 1", "sheet 0 0 1 = 1", "put -1 0 9 = -1 !0", "put 4 0 9 = -1 !0",
                "put MIN 0 9 = -1 !0", "put MAX 0 9 = -1 !0", holds(0, 0, 0), holds(3, 0, 0), "put 3 0 9 = 1", "put 0 0 9 = 1");
        Script.test(check, "29 put: NULL: ahead of a row, and behind lose", "put 0 0 9 = -11 !1", "sheet 0 0 1 = 1", "put 0 0 9 = 1", "lose 0 = 1",
                "put 0 0 9 = -11 !1", "lose 0 = 0", "sheet 0 0 1 = 1", holds(0, 0, 0));
        Script.test(check, "29 put: INDEX: of 60 cells 0 .. 59", "sheet 0 0 60 = 1", "put 0 -1 9 = -13 !3", "put 0 60 9 = -13 !3", "put 0 MIN 9 = -13 !3",
                "put 0 MAX 9 = -13 !3", "put 0 59 9 = 1", "put 0 0 9 = 1", "cell 0 59 0 = 9", "cell 0 0 0 = 9");
        Script.test(check, "29 put: INDEX: of one cell 0 alone, of none not 0", "sheet 1 0 1 = 1", "put 1 1 9 = -13 !3", "put 1 -1 9 = -13 !3", "put 1 0 9 = 1",
                "sheet 1 0 0 = 1", "put 1 0 9 = -13 !3", "put 1 -1 9 = -13 !3", "sheet 1 0 3 = 1", "put 1 3 9 = -13 !3", "put 1 2 9 = 1");
        Script.test(check, "29 put: two at once: the first that is told", "put 4 -1 9 = -1 !0", "put -1 60 9 = -1 !0", "put 0 -1 9 = -11 !1",
                "put 0 60 9 = -11 !1", "sheet 0 0 1 = 1", "put 0 60 9 = -13 !3");
    }

    private static void cell(Check check) {
        Script.test(check, "30 cell: the first and the last of 60", "sheet 2 1 60 = 1", "put 2 0 -7 = 1", "put 2 59 700 = 1", "cell 2 0 1 = -7", "cell 2 59 1 = 700",
                "cell 2 58 1 = 0", "cell 2 60 1 = LOST !3", "cell 2 -1 1 = LOST !3");
        Script.test(check, "30 cell: a long, with its sign", "row 0 2 MIN MAX -1 = 1", "cell 0 0 2 = -2147483648", "cell 0 1 2 = 2147483647", "cell 0 2 2 = -1");
        Script.test(check, "30 cell: of each SHEET", "row 0 0 1 = 1", "row 1 1 2 = 1", "row 2 2 3 = 1", "row 3 0 4 = 1", "cell 0 0 0 = 1", "cell 1 0 1 = 2",
                "cell 2 0 2 = 3", "cell 3 0 0 = 4");
    }

    private static void cellRefused(Check check) {
        Script.test(check, "30 cell: UNKNOWN: SHEETS are 0 .. 3", "row 0 0 1 = 1", "row 3 0 1 = 1", "cell -1 0 0 = LOST !0", "cell 4 0 0 = LOST !0",
                "cell MIN 0 0 = LOST !0", "cell MAX 0 0 = LOST !0", "cell 0 0 0 = 1", "cell 3 0 0 = 1");
        Script.test(check, "30 cell: OUTSIDE: SORTS are 0 .. 2", "row 0 0 1 = 1", "row 1 2 1 = 1", "cell 0 0 -1 = LOST !0", "cell 1 0 3 = LOST !0",
                "cell 0 0 MIN = LOST !0", "cell 0 0 MAX = LOST !0", "cell 0 0 0 = 1", "cell 1 0 2 = 1");
        Script.test(check, "30 cell: CAST: each SORT but its own, of a row of no cells, too", "row 0 0 1 = 1", "row 1 1 1 = 1", "row 2 2 1 = 1", "sheet 3 0 0 = 1", """
            cell 0 0 0 = 1
            cell 0 0 1 = LOST !2
            cell 0 0 2 = LOST !2
            cell 1 0 0 = LOST !2
            cell 1 0 1 = 1
            cell 1 0 2 = LOST !2
            cell 2 0 0 = LOST !2
            cell 2 0 1 = LOST !2
            cell 2 0 2 = 1
            cell 3 0 1 = LOST !2
            cell 3 0 2 = LOST !2
            cell 3 0 0 = LOST !3
            """);
        Script.test(check, "30 cell: nothing is no CAST, but NULL", "cell 0 0 0 = LOST !1", "cell 0 0 1 = LOST !1", "cell 0 0 2 = LOST !1", "sheet 0 1 1 = 1",
                "lose 0 = 1", "cell 0 0 0 = LOST !1", "cell 0 0 1 = LOST !1");
        Script.test(check, "30 cell: INDEX: of two cells 0 and 1", "row 0 0 1 2 = 1", "cell 0 -1 0 = LOST !3", "cell 0 2 0 = LOST !3", "cell 0 3 0 = LOST !3",
                "cell 0 MIN 0 = LOST !3", "cell 0 MAX 0 = LOST !3", "cell 0 0 0 = 1", "cell 0 1 0 = 2");
        Script.test(check, "30 cell: two at once: the first that is told", "row 0 1 1 = 1", "cell 4 0 3 = LOST !0", "cell 4 9 0 = LOST !0", "cell 0 9 3 = LOST !0",
                "cell 1 0 3 = LOST !0", "cell 0 9 0 = LOST !2", "cell 0 -1 2 = LOST !2", "cell 1 9 0 = LOST !1", "cell 1 -1 1 = LOST !1", "cell 0 9 1 = LOST !3");
    }

    private static void copy(Check check) {
        Script.test(check, "31 copy: none, one, all; from i on, to j on", "row 0 1 1 2 3 4 5 = 1", "row 1 1 9 8 7 = 1", "copy 0 0 1 0 0 = 0", holds(1, 1, 9, 8, 7),
                "copy 0 4 1 1 1 = 1", holds(1, 1, 9, 5, 7), "copy 0 1 1 0 3 = 3", holds(1, 1, 2, 3, 4), "copy 1 0 0 2 3 = 3", holds(0, 1, 1, 2, 2, 3, 4),
                holds(1, 1, 2, 3, 4));
        Script.test(check, "31 copy: none from behind the last cell, to behind the last cell", "row 0 1 1 2 = 1", "row 1 1 9 = 1", "copy 0 2 1 1 0 = 0",
                "copy 0 2 1 0 0 = 0", "copy 0 0 1 1 0 = 0", "copy 1 1 0 2 0 = 0", holds(0, 1, 1, 2), holds(1, 1, 9), "sheet 2 1 0 = 1", "copy 2 0 1 1 0 = 0",
                "copy 1 1 2 0 0 = 0", "copy 2 0 2 0 0 = 0");
        Script.test(check, "31 copy: all 60 cells of a SHEET", "sheet 0 2 60 = 1", "sheet 3 2 60 = 1", "put 0 0 5 = 1", "put 0 59 6 = 1", "put 3 30 7 = 1",
                "copy 0 0 3 0 60 = 60", "cell 3 0 2 = 5", "cell 3 59 2 = 6", "cell 3 30 2 = 0", "copy 0 0 3 0 61 = -13 !3", "copy 0 0 3 0 59 = 59");
        for (int sort = 0; sort < 3; sort++) {
            Script.test(check, "31 copy: of SORT " + sort + ", as they were", ("row 2 S 1 -2 3 = 1\nrow 0 S 4 5 = 1\ncopy 2 1 0 0 2 = 2\n").replace("S", "" + sort),
                    holds(0, sort, -2, 3), holds(2, sort, 1, -2, 3));
        }
    }

    private static void copyToItself(Check check) {
        Script.test(check, "31 copy: to itself, farther on: as they were", "row 0 2 1 2 3 4 5 = 1", "copy 0 0 0 1 4 = 4", holds(0, 2, 1, 1, 2, 3, 4));
        Script.test(check, "31 copy: to itself, nearer: as they were", "row 0 2 1 2 3 4 5 = 1", "copy 0 1 0 0 4 = 4", holds(0, 2, 2, 3, 4, 5, 5));
        Script.test(check, "31 copy: to itself, by two, and where it is", "row 3 2 1 2 3 4 5 = 1", "copy 3 0 3 2 3 = 3", holds(3, 2, 1, 2, 1, 2, 3),
                "copy 3 0 3 0 5 = 5", holds(3, 2, 1, 2, 1, 2, 3), "copy 3 5 3 5 0 = 0", "copy 3 2 3 0 3 = 3", holds(3, 2, 1, 2, 3, 2, 3));
        Script.test(check, "31 copy: to itself beyond its end", "row 0 2 1 2 3 = 1", "copy 0 0 0 1 3 = -13 !3", "copy 0 1 0 0 3 = -13 !3", "copy 0 0 0 4 0 = -13 !3",
                "copy 0 0 0 3 0 = 0", holds(0, 2, 1, 2, 3));
    }

    private static void copyRefused(Check check) {
        Script.test(check, "31 copy: UNKNOWN: the first, the other, both: SHEETS are 0 .. 3", "row 0 0 1 = 1", "row 3 0 2 = 1", """
            copy -1 0 0 0 1 = -1 !0
            copy 4 0 0 0 1 = -1 !0
            copy 0 0 -1 0 1 = -1 !0
            copy 0 0 4 0 1 = -1 !0
            copy 4 0 4 0 1 = -1 !0
            copy -1 0 -1 0 1 = -1 !0
            copy MIN 0 0 0 1 = -1 !0
            copy 0 0 MAX 0 1 = -1 !0
            copy 3 0 0 0 1 = 1
            copy 0 0 3 0 1 = 1
            """);
        Script.test(check, "31 copy: two at once: the first that is told", "row 0 1 1 2 = 1", "row 1 2 1 2 = 1", """
            copy 4 0 2 0 1 = -1 !0
            copy 2 0 4 0 1 = -1 !0
            copy 4 -1 0 0 -1 = -1 !0
            copy 0 0 4 0 -1 = -1 !0
            copy 2 -1 0 0 -1 = -11 !1
            copy 0 -1 2 -1 -1 = -11 !1
            copy 2 0 3 9 9 = -11 !1
            copy 0 -1 1 0 1 = -12 !2
            copy 0 0 1 -1 1 = -12 !2
            copy 0 0 1 0 -1 = -12 !2
            copy 1 9 0 9 9 = -12 !2
            copy 0 -1 0 -1 -1 = -13 !3
            """);
    }

    private static void copyFaults(Check check) {
        Script.test(check, "31 copy: NULL: the first, the other, both; behind lose", "sheet 0 0 1 = 1", "copy 1 0 0 0 0 = -11 !1", "copy 0 0 1 0 0 = -11 !1",
                "copy 1 0 1 0 0 = -11 !1", "copy 1 0 2 0 0 = -11 !1", "sheet 1 0 1 = 1", "copy 1 0 0 0 1 = 1", "lose 0 = 1", "copy 1 0 0 0 1 = -11 !1",
                "copy 0 0 1 0 1 = -11 !1", "copy 0 0 0 0 1 = -11 !1");
        Script.test(check, "31 copy: CAST: unlike SORTS, also of none", "sheet 0 0 1 = 1", "sheet 1 1 1 = 1", "sheet 2 2 1 = 1", "sheet 3 0 1 = 1", """
            copy 0 0 1 0 0 = -12 !2
            copy 0 0 2 0 0 = -12 !2
            copy 1 0 0 0 0 = -12 !2
            copy 1 0 2 0 1 = -12 !2
            copy 2 0 0 0 1 = -12 !2
            copy 2 0 1 0 0 = -12 !2
            copy 0 0 3 0 1 = 1
            copy 3 0 0 0 0 = 0
            """);
        Script.test(check, "31 copy: INDEX: i, j, n below 0", "row 0 0 1 2 = 1", "row 1 0 3 4 5 = 1", "copy 0 -1 1 0 1 = -13 !3", "copy 0 0 1 -1 1 = -13 !3",
                "copy 0 0 1 0 -1 = -13 !3", "copy 0 -1 1 0 0 = -13 !3", "copy 0 0 1 -1 0 = -13 !3", "copy 0 2 1 3 -1 = -13 !3", "copy 0 MIN 1 0 0 = -13 !3",
                "copy 0 0 1 MIN 0 = -13 !3", "copy 0 0 1 0 MIN = -13 !3", "copy 0 MIN 1 MIN MIN = -13 !3", holds(0, 0, 1, 2), holds(1, 0, 3, 4, 5));
        Script.test(check, "31 copy: INDEX: i, j, n beyond", "row 0 0 1 2 = 1", "row 1 0 3 4 5 = 1", """
            copy 0 3 1 0 0 = -13 !3
            copy 0 0 1 4 0 = -13 !3
            copy 0 0 1 0 3 = -13 !3
            copy 1 0 0 0 3 = -13 !3
            copy 0 1 1 0 2 = -13 !3
            copy 0 0 1 2 2 = -13 !3
            copy 0 2 1 0 1 = -13 !3
            copy 0 0 1 3 1 = -13 !3
            copy 0 MAX 1 0 1 = -13 !3
            copy 0 0 1 MAX 1 = -13 !3
            copy 0 1 1 1 MAX = -13 !3
            copy 0 MAX 1 MAX MAX = -13 !3
            copy 0 MAX 1 0 0 = -13 !3
            copy 0 0 1 MAX 0 = -13 !3
            copy 0 0 1 1 2 = 2
            """, holds(0, 0, 1, 2), holds(1, 0, 3, 1, 2));
    }
}
