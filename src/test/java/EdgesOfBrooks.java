/** Promises 1 to 5: each sentence that names a boundary, in a test of its own. */
final class EdgesOfBrooks {
    private static final String THREE = "text d012;b345;p6 = 3\n";
    private static final String SEVEN = "text d0987654;b9012345;p0 = 7\n";
    private static final int[] NO_DIGITS = {47, 58, 0, -1, -48, 'd', ';', '9' + 256, Integer.MIN_VALUE};
    private static final int[] NO_D = {99, 101, 68, '0', ';', -100, 100 + 256};
    private static final int[] NO_MARK = {58, 60, 44, -59, 'b', 'p', 59 + 65536};
    private static final int[] NO_B = {97, 99, 66, ';', '1', 'd', -98};
    private static final int[] NO_P = {111, 113, 80, ';', '1', 'b', -112};

    /** Every call with the best arguments that there are without a BROOK, and what it answers then. */
    private static final String ALL_WITHOUT = """
        brook 0 0 0 0 = -11 !1
        ofCell 0 0 = -1 !
        guard 0 true = -1 !
        guard 0 false = -1 !
        water 0 = -3 !
        stone 0 1 1 0 = -3 !
        ofStone 0 0 = -1 !
        set 0 0 = -1 !
        set 0 NONE = -1 !
        work 0 0 = -1 !
        walker 1 = -3 !
        stride 0 = -1 !
        can 0 false = -1 !
        can 0 true = -1 !
        way 0 -1 = -1 !
        highest 0 false = -1 !
        pass 0 0 = -1 !
        days 0 0 0 0 0 = -1 !0
        stands 0 0 = -3 !
        goes 0 0 = -1 !
        dug 0 0 0 = -1 !
        flood 0 0 = -3 !
        save 0 0 0 = -3 !
        save 0 0 1 = -3 !
        plan 1 0 0 -1 = -3 !
        plan 1 0 0 -2 = -3 !
        plan 1 0 0 0 = -1 !
        orders 1 = -3 !
        order 1 0 = -3 !
        fits 0 0 = -3 !
        odds 0 0 0 0 0 0 = LOST !0
        tell 0 = -1 !
        tread 0 = -1 !
        as 0 0 = -1 !0
        """;

    private static final String MANY_ZERO = """
        many 0 = 0
        many 1 = 0
        many 2 = 0
        many 3 = 0
        many 4 = 0
        many 5 = 0
        many 6 = 0
        """;

    private EdgesOfBrooks() { }

    static void all(Check check) {
        newObject(check);
        cellsOfTexts(check);
        firstFaults(check);
        whatIsTaken(check);
        allAnew(check);
        smallerBehindGreater(check);
        brookRefused(check);
        brookFaults(check);
        ofCell(check);
        guard(check);
        water(check);
    }

    private static void newObject(Check check) {
        Script.test(check, "1 new: no CELLS, nothing of all that is counted", MANY_ZERO);
        Script.test(check, "1 new: SHEETS have nothing", """
            lose 0 = 0
            lose 1 = 0
            lose 2 = 0
            lose 3 = 0
            cell 0 0 0 = LOST !1
            cell 1 0 1 = LOST !1
            cell 2 0 2 = LOST !1
            cell 3 0 0 = LOST !1
            put 0 0 0 = -11 !1
            put 1 0 0 = -11 !1
            put 2 0 0 = -11 !1
            put 3 0 0 = -11 !1
            copy 0 0 1 0 0 = -11 !1
            copy 2 0 3 0 0 = -11 !1
            """);
        Script.test(check, "1 new: TRACE and fault() are 0", "trace = 0", "fault = 0");
        Script.test(check, "1 new: each call without a BROOK", ALL_WITHOUT, "lose 0 = 0", MANY_ZERO);
        Script.test(check, "1 new: each call behind a TEXT that was not taken",
                "text d345;b012 = -109 !0", ALL_WITHOUT, MANY_ZERO, "sheet 0 0 0 = 1", "brook 0 0 0 0 = -100 !0", MANY_ZERO);
        Script.test(check, "1 new: each call behind a TEXT that was taken", WITH_TEXT);
        Script.test(check, "1 new: each call behind a TEXT that was taken and one that was not",
                WITH_TEXT.replaceFirst("\n", "\ntext d01;b2 = -103 !0\n"));
        check.test("1 new: objects have nothing in common", EdgesOfBrooks::twoObjects);
    }

    private static final String WITH_TEXT = """
        text d012;b345;p6 = 3
        many 0 = 3
        ofCell 0 0 = 0
        stands 0 0 = 0
        goes 0 0 = NONE
        dug 0 0 0 = 0
        flood 0 0 = 0
        save 0 0 0 = 0
        save 0 0 1 = 0
        plan 1 0 0 -1 = NONE
        plan 1 0 0 -2 = NONE
        plan 1 0 0 0 = NONE
        orders 1 = 1
        order 1 0 = NONE
        fits 0 0 = 1023
        guard 0 true = 1
        water 0 = 0
        ofStone 0 0 = -1 !
        stride 0 = -1 !
        stone 0 1 1 0 = 0
        set 0 0 = 1
        work 0 0 = 1
        walker 1 = 0
        stride 0 = 1
        can 0 false = 0
        way 0 -1 = NONE
        highest 0 false = NONE
        pass 0 0 = 0
        days 0 0 0 0 0 = -11 !1
        odds 0 0 0 0 0 0 = LOST !1
        tell 0 = 1
        tread 0 = 0
        as 0 0 = 1
        """;

    private static void twoObjects(Check check) {
        BrookStones x = Brooks.five();
        BrookStones y = new BrookStones();
        x.tell(0);
        x.put(0, 0, 0);
        check.due("many(0) of the other", y.many(0), 0);
        check.due("many(1) of the other", y.many(1), 0);
        check.due("trace() of the other", y.trace(), 0);
        check.due("fault() of the other", y.fault(), 0);
        check.due("lose(3) of the other", y.lose(3), 0);
    }

    private static String textOf(int depths, int beds, int paces) {
        StringBuilder text = new StringBuilder("d");
        for (int c = 0; c < depths; c++) {
            text.append((char) ('1' + c));
        }
        text.append(";b");
        for (int c = 0; c < beds; c++) {
            text.append((char) ('9' - c));
        }
        text.append(";p");
        for (int c = 0; c < paces; c++) {
            text.append(5);
        }
        return text.toString();
    }

    private static void cellsOfTexts(Check check) {
        Script.test(check, "2 brook: 3 digits of DEPTH are taken, 2 are not",
                "text d12;b98;p5 = -103 !0", "many 0 = 0", "text d123;b987;p5 = 3", "many 0 = 3");
        Script.test(check, "2 brook: 7 digits of DEPTH are taken, 8 are not",
                "text d12345678;b98765432;p5 = -108 !0", "many 0 = 0", "text d1234567;b9876543;p5 = 7", "many 0 = 7");
        Script.test(check, "2 brook: no digit of DEPTH, and one", "text d;b;p5 = -101 !0", "text d1;b9;p5 = -102 !0");
        for (int m = 3; m <= 7; m++) {
            Script.test(check, "2 brook: of " + m + " CELLS as many digits of BED, none fewer, none more",
                    "text " + textOf(m, m - 1, 1) + " = " + (-100 - (2 * m + 2)) + " !0",
                    "text " + textOf(m, m + 1, 1) + " = " + (-100 - (2 * m + 3)) + " !0",
                    "text " + textOf(m, 0, 1) + " = " + (-100 - (m + 3)) + " !0",
                    "many 0 = 0",
                    "text " + textOf(m, m, 1) + " = " + m);
            Script.test(check, "2 brook: of " + m + " CELLS one digit of PACE, not none, not two",
                    "text " + textOf(m, m, 0) + " = " + (-100 - (2 * m + 5)) + " !0",
                    "text " + textOf(m, m, 2) + " = " + (-100 - (2 * m + 6)) + " !0",
                    "many 0 = 0",
                    "text " + textOf(m, m, 1) + " = " + m);
        }
    }

    private static void firstFaults(Check check) {
        for (int m = 3; m <= 7; m++) {
            int cells = m;
            check.test("2 brook: of " + m + " CELLS a wrong code at each place", c -> wrongCodes(c, cells));
            check.test("2 brook: of " + m + " CELLS it ends ahead of each place", c -> endsTooSoon(c, cells));
            check.test("2 brook: of " + m + " CELLS one code more", c -> oneMore(c, cells));
        }
        Script.test(check, "2 brook: of two wrong codes the first",
                "text x345;b012;x3 = -100 !0", "text d345;x012;x3 = -105 !0", "text d345;bx12;p = -106 !0",
                "text d3x5;b0;p3 = -102 !0");
        Script.test(check, "2 brook: it just ends: how many codes there are",
                "text  = -100 !0", "text d = -101 !0", "text d345 = -104 !0", "text d3456789 = -108 !0",
                "text d345;b012;p = -111 !0", "text d3456789;b0123456;p = -119 !0");
        Script.test(check, "2 brook: a TEXT and another one behind it", "text d345;b012;p3d345;b012;p3 = -112 !0");
        Script.test(check, "2 brook: parts in another order", "text b012;d345;p3 = -100 !0", "text d345;p3;b012 = -105 !0");
    }

    private static int[] codesOf(String text) {
        return text.chars().toArray();
    }

    private static int[] wrongAt(int place, int m) {
        if (place == 0) {
            return NO_D;
        }
        if (place == m + 1 || place == 2 * m + 3) {
            return NO_MARK;
        }
        if (place == m + 2) {
            return NO_B;
        }
        return place == 2 * m + 4 ? NO_P : NO_DIGITS;
    }

    private static void wrongCodes(Check check, int m) {
        for (int place = 0; place < 2 * m + 6; place++) {
            for (int wrong : wrongAt(place, m)) {
                // A mark where a fourth digit could be is one: then it is a TEXT of fewer CELLS.
                boolean isMark = wrong == ';' && place > 3 && place <= m;
                int[] codes = codesOf(textOf(m, m, 1));
                codes[place] = wrong;
                BrookStones x = new BrookStones();
                Brooks.write(x, 0, 2, codes);
                int due = isMark ? place + 1 : place;
                check.due("code " + wrong + " at " + place, x.brook(0, 2, 0, codes.length), -100 - due);
                check.due("fault() by code " + wrong + " at " + place, x.fault(), 0);
                check.due("many(0) by code " + wrong + " at " + place, x.many(0), 0);
            }
        }
    }

    private static void endsTooSoon(Check check, int m) {
        for (int n = 0; n < 2 * m + 6; n++) {
            BrookStones x = new BrookStones();
            Brooks.write(x, 0, 1, codesOf(textOf(m, m, 1)));
            check.due("of the first " + n + " codes", x.brook(0, 1, 0, n), -100 - n);
            check.due("many(0) by " + n + " codes", x.many(0), 0);
            check.due("of all codes", x.brook(0, 1, 0, 2 * m + 6), m);
            check.due("once more of the first " + n, x.brook(0, 1, 0, n), -100 - n);
            check.due("many(0) as before", x.many(0), m);
        }
    }

    private static void oneMore(Check check, int m) {
        for (char more : "05;dbp ".toCharArray()) {
            BrookStones x = new BrookStones();
            Brooks.write(x, 0, 0, codesOf(textOf(m, m, 1) + more));
            check.due("with code " + (int) more, x.brook(0, 0, 0, 2 * m + 7), -100 - (2 * m + 6));
            check.due("without it", x.brook(0, 0, 0, 2 * m + 6), m);
        }
    }

    private static void whatIsTaken(Check check) {
        Script.test(check, "2 brook: digits 0 and 9 of DEPTH, of BED, of PACE", """
            text d0909;b9090;p0 = 4
            ofCell 0 0 = 0
            ofCell 1 0 = 9
            ofCell 2 0 = 0
            ofCell 3 0 = 9
            ofCell 0 1 = 9
            ofCell 1 1 = 0
            ofCell 2 1 = 9
            ofCell 3 1 = 0
            stone 0 1 9 0 = 0
            set 0 1 = 1
            dug 1 0 1 = 0
            dug 1 9 1 = 9
            text d0909;b9090;p9 = 4
            stone 0 1 9 0 = 0
            set 0 1 = 1
            dug 1 0 1 = 9
            dug 1 9 1 = 18
            """);
        Script.test(check, "2 brook: from the near bank on: DEPTHS and BEDS in their order", """
            text d1234567;b7654321;p0 = 7
            ofCell 0 0 = 1
            ofCell 6 0 = 7
            ofCell 0 1 = 7
            ofCell 3 1 = 4
            ofCell 6 1 = 1
            """);
        Script.test(check, "2 brook: from i on: the last cells of a row, others around", """
            row 0 1 100 48 100 49 50 51 59 98 52 53 54 59 112 55 = 1
            brook 0 1 2 12 = 3
            ofCell 0 0 = 1
            ofCell 2 1 = 6
            brook 0 1 0 14 = -102 !0
            brook 0 1 2 11 = -111 !0
            brook 0 1 1 13 = -100 !0
            ofCell 0 0 = 1
            """);
        Script.test(check, "2 brook: the last 12 of 60 cells", lastOfSixty());
        Script.test(check, "2 brook: the last digits of the last SHEET: no code behind them is looked at", """
            sheet 3 0 60 = 1
            put 3 54 100 = 1
            put 3 55 51 = 1
            put 3 56 52 = 1
            put 3 57 53 = 1
            put 3 58 54 = 1
            put 3 59 55 = 1
            brook 3 0 54 6 = -106 !0
            brook 3 0 54 5 = -105 !0
            brook 3 0 54 4 = -104 !0
            brook 3 0 54 1 = -101 !0
            brook 3 0 59 1 = -100 !0
            brook 3 0 60 0 = -100 !0
            """);
        for (int sort = 0; sort < 3; sort++) {
            int k = sort + 1;
            Script.test(check, "2 brook: of SHEET " + k + ", of SORT " + sort, """
                row K S 100 51 52 53 59 98 48 49 50 59 112 51 = 1
                brook K S 0 12 = 3
                ofCell 1 0 = 4
                brook K S 0 12 = 3
                many 0 = 3
                """.replace("K", "" + k).replace("S", "" + sort));
        }
        Script.test(check, "2 brook: codes that were cut to their SORT as they came", """
            row 0 0 356 307 308 309 315 354 304 305 306 315 368 307 = 1
            brook 0 0 0 12 = 3
            row 0 1 65636 51 52 53 59 98 48 49 50 59 112 51 = 1
            brook 0 1 0 12 = 3
            row 0 1 356 51 52 53 59 98 48 49 50 59 112 51 = 1
            brook 0 1 0 12 = -100 !0
            row 0 2 65636 51 52 53 59 98 48 49 50 59 112 51 = 1
            brook 0 2 0 12 = -100 !0
            """);
    }

    private static String lastOfSixty() {
        StringBuilder lines = new StringBuilder("sheet 2 0 60 = 1\n");
        String text = "d345;b012;p3";
        for (int i = 0; i < text.length(); i++) {
            lines.append("put 2 ").append(48 + i).append(' ').append((int) text.charAt(i)).append(" = 1\n");
        }
        return lines + "brook 2 0 49 11 = -100 !0\nbrook 2 0 49 12 = -13 !3\nbrook 2 0 48 12 = 3\nofCell 2 0 = 5\n";
    }

    private static final String FULL_BROOK = """
        text d0000;b0000;p1 = 4
        stone 0 5 1 0 = 0
        stone 1 5 9 0 = 1
        stone 2 5 9 0 = 2
        stone 0 5 9 0 = 3
        stone 0 5 9 0 = 4
        stone 0 5 9 0 = 5
        set 0 0 = 1
        set 1 1 = 1
        set 2 3 = 1
        walker 9 = 0
        walker 8 = 1
        guard 0 true = 1
        guard 3 true = 1
        water 7 = 0
        flood 1 1 = 1
        tell 1 = 109
        row 0 2 77 = 1
        """;

    private static void allAnew(Check check) {
        Script.test(check, "2 brook: anew: no STONES, WALKERS, nothing GUARDED, WATER 0", FULL_BROOK,
                "text d123;b456;p7 = 3", "many 0 = 3", "many 1 = 0", "many 2 = 0", "many 3 = 0", "many 4 = 0",
                "many 5 = 0", "many 6 = 0", "ofStone 0 0 = -1 !", "ofStone 0 5 = -1 !", "stride 0 = -1 !", "ofCell 0 2 = NONE",
                "ofCell 0 3 = 0", "ofCell 1 2 = NONE", "ofCell 1 4 = -99", "ofCell 3 0 = -1 !");
        Script.test(check, "2 brook: anew: numbers begin with 0, GONE ones do not count", FULL_BROOK,
                "text d1234567;b0000000;p1 = 7", "ofCell 3 2 = NONE", "ofCell 3 3 = 0", "stone 0 1 1 0 = 0", "ofStone 0 5 = NONE",
                "set 0 0 = 1", "walker 3 = 0", "stride 0 = 3", "stride 1 = -1 !", "many 4 = 0", "water 1 = 0");
        Script.test(check, "2 brook: anew: SHEETS and TRACE are kept", FULL_BROOK, "trace = 63",
                "text d123;b456;p7 = 3", "trace = 63", "cell 0 0 2 = 77", "cell 3 0 0 = 100", "cell 3 11 0 = 55");
        Script.test(check, "2 brook: anew by the same TEXT", FULL_BROOK, "text d0000;b0000;p1 = 4", "many 1 = 0",
                "many 2 = 0", "many 5 = 0", "many 6 = 0", "walker 1 = 0", "stone 2 20 9 9 = 0");
        Script.test(check, "2 brook: what is not taken changes nothing", FULL_BROOK,
                "text d123;b456;p = -111 !0", "brook 0 2 0 1 = -100 !0", "many 0 = 4", "many 1 = 6", "many 2 = 2", "many 3 = 2",
                "many 4 = 1", "many 5 = 2", "many 6 = 7", "ofCell 1 2 = 1", "stride 1 = 8", "ofStone 0 5 = -5");
    }

    /** Whatever a greater BROOK left in rows that are used again is not there in a smaller one. */
    private static void smallerBehindGreater(Check check) {
        String greater = """
            text d0000000;b0000000;p1 = 7
            walker 2 = 0
            stone 2 9 3 0 = 0
            stone 1 9 3 0 = 1
            stone 0 9 3 0 = 2
            stone 0 9 3 0 = 3
            set 0 1 = 1
            set 1 3 = 1
            set 2 5 = 1
            set 3 6 = 1
            can 0 false = 1
            way 0 -1 = 4
            way 0 2 = 5
            highest 0 false = 8
            pass 0 0 = 10
            stands 0 2 = 10
            stands 0 1 = 106
            goes 6 0 = 2
            dug 6 0 30 = 4
            save 0 2 0 = 5
            plan 2 0 1 -1 = 36
            plan 2 0 1 6 = NONE
            orders 2 = 1
            order 2 3 = 6
            fits 106 0 = 1023
            """;
        String smaller = """
            text d000;b000;p0 = 3
            walker 2 = 0
            stone 0 1 1 0 = 0
            can 0 false = 0
            way 0 -1 = NONE
            plan 2 0 1 -1 = 2
            plan 2 0 1 0 = NONE
            plan 2 0 1 1 = 0
            plan 2 0 1 2 = NONE
            plan 1 0 1 -1 = NONE
            set 0 1 = 1
            can 0 false = 1
            way 0 -1 = 2
            way 0 0 = 1
            way 0 1 = 3
            way 0 2 = NONE
            highest 0 false = 0
            pass 0 0 = 0
            stands 0 30 = 2
            goes 1 1 = 1
            dug 0 1 30 = 0
            save 1 1 0 = 1
            orders 2 = 1
            order 2 0 = 1
            order 2 1 = NONE
            fits 2 1 = 1
            flood 1 1 = 1
            """;
        Script.test(check, "2 brook: anew: a smaller BROOK behind a greater one, and a greater one again", greater, smaller, greater);
    }

    private static void brookRefused(Check check) {
        Script.test(check, "2 brook: UNKNOWN: SHEETS are 0 .. 3", """
            brook -1 0 0 12 = -1 !0
            brook 4 0 0 12 = -1 !0
            brook MIN 0 0 12 = -1 !0
            brook MAX 0 0 12 = -1 !0
            row 0 0 100 51 52 53 59 98 48 49 50 59 112 51 = 1
            brook 0 0 0 12 = 3
            text d345;b012;p3 = 3
            """);
        Script.test(check, "2 brook: OUTSIDE: SORTS are 0 .. 2", """
            row 0 0 100 51 52 53 59 98 48 49 50 59 112 51 = 1
            brook 0 -1 0 12 = -2 !0
            brook 0 3 0 12 = -2 !0
            brook 0 MIN 0 12 = -2 !0
            brook 0 MAX 0 12 = -2 !0
            brook 0 0 0 12 = 3
            """);
        Script.test(check, "2 brook: two at once: the first that is told", """
            row 0 1 7 7 = 1
            brook -1 3 0 2 = -1 !0
            brook 4 -1 -1 -1 = -1 !0
            brook 4 0 9 9 = -1 !0
            brook 1 3 0 0 = -2 !0
            brook 1 -1 -1 -1 = -2 !0
            brook 0 3 0 -1 = -2 !0
            brook 0 3 3 0 = -2 !0
            brook 0 0 0 -1 = -12 !2
            brook 0 2 3 0 = -12 !2
            brook 0 0 0 2 = -12 !2
            brook 1 0 0 -1 = -11 !1
            brook 1 0 -1 0 = -11 !1
            brook 0 1 -1 -1 = -14 !4
            brook 0 1 3 -1 = -14 !4
            brook 0 1 0 3 = -13 !3
            brook 0 1 0 2 = -100 !0
            """);
    }

    private static void brookFaults(Check check) {
        Script.test(check, "2 brook: CAST: each SORT but its own; nothing is no CAST", """
            sheet 0 0 0 = 1
            sheet 1 1 0 = 1
            sheet 2 2 0 = 1
            brook 0 0 0 0 = -100 !0
            brook 0 1 0 0 = -12 !2
            brook 0 2 0 0 = -12 !2
            brook 1 0 0 0 = -12 !2
            brook 1 1 0 0 = -100 !0
            brook 1 2 0 0 = -12 !2
            brook 2 0 0 0 = -12 !2
            brook 2 1 0 0 = -12 !2
            brook 2 2 0 0 = -100 !0
            brook 3 0 0 0 = -11 !1
            brook 3 1 0 0 = -11 !1
            brook 3 2 0 0 = -11 !1
            """);
        Script.test(check, "2 brook: NULL: behind lose there is nothing", """
            row 0 0 100 51 52 53 59 98 48 49 50 59 112 51 = 1
            brook 0 0 0 12 = 3
            lose 0 = 1
            brook 0 0 0 12 = -11 !1
            brook 0 1 0 12 = -11 !1
            many 0 = 3
            """);
        Script.test(check, "2 brook: SIZE: n below 0, but not 0", """
            row 0 0 100 51 = 1
            brook 0 0 0 -1 = -14 !4
            brook 0 0 0 MIN = -14 !4
            brook 0 0 0 0 = -100 !0
            brook 0 0 2 -2 = -14 !4
            """);
        Script.test(check, "2 brook: INDEX: i is 0 .. how many there are, if none is taken, too", """
            row 0 2 100 51 = 1
            brook 0 2 -1 0 = -13 !3
            brook 0 2 0 0 = -100 !0
            brook 0 2 2 0 = -100 !0
            brook 0 2 3 0 = -13 !3
            brook 0 2 MIN 0 = -13 !3
            brook 0 2 MAX 0 = -13 !3
            sheet 1 0 0 = 1
            brook 1 0 -1 0 = -13 !3
            brook 1 0 0 0 = -100 !0
            brook 1 0 1 0 = -13 !3
            """);
        Script.test(check, "2 brook: INDEX: not all cells are there", """
            row 0 2 100 51 = 1
            brook 0 2 0 2 = -102 !0
            brook 0 2 0 3 = -13 !3
            brook 0 2 1 1 = -100 !0
            brook 0 2 1 2 = -13 !3
            brook 0 2 2 1 = -13 !3
            brook 0 2 -1 1 = -13 !3
            brook 0 2 -1 2 = -13 !3
            brook 0 2 1 MAX = -13 !3
            brook 0 2 2 MAX = -13 !3
            brook 0 2 MAX MAX = -13 !3
            brook 0 2 MIN MAX = -13 !3
            """);
    }

    private static void ofCell(Check check) {
        Script.test(check, "3 ofCell: UNKNOWN: CELLS are 0 .. 2 of three", THREE,
                "ofCell -1 0 = -1 !", "ofCell 0 0 = 0", "ofCell 2 0 = 2", "ofCell 3 0 = -1 !", "ofCell MIN 0 = -1 !",
                "ofCell MAX 0 = -1 !", "ofCell NONE 2 = -1 !");
        Script.test(check, "3 ofCell: UNKNOWN: CELLS are 0 .. 6 of seven", SEVEN,
                "ofCell -1 0 = -1 !", "ofCell 0 0 = 0", "ofCell 6 0 = 4", "ofCell 7 0 = -1 !", "ofCell 6 1 = 5");
        Script.test(check, "3 ofCell: OUTSIDE: what is 0 .. 4", THREE,
                "ofCell 1 -1 = -2 !", "ofCell 1 0 = 1", "ofCell 1 1 = 4", "ofCell 1 2 = NONE", "ofCell 1 3 = 0", "ofCell 1 4 = -99",
                "ofCell 1 5 = -2 !", "ofCell 1 MIN = -2 !", "ofCell 1 MAX = -2 !");
        Script.test(check, "3 ofCell: two at once: UNKNOWN", THREE, "ofCell -1 -1 = -1 !", "ofCell 3 5 = -1 !");
        Script.test(check, "3 ofCell: its STONE: the first and the last of six, NONE", SIX_IN_SEVEN,
                "ofCell 0 2 = 5", "ofCell 1 2 = 4", "ofCell 5 2 = 0", "ofCell 6 2 = NONE", "ofCell 6 4 = -99");
        Script.test(check, "3 ofCell: TOP: the highest and the lowest there are", """
            text d900;b000;p0 = 3
            stone 0 20 1 0 = 0
            stone 0 1 1 0 = 1
            set 0 1 = 1
            set 1 0 = 1
            ofCell 1 4 = 20
            ofCell 0 4 = -8
            water 9 = 0
            ofCell 1 4 = 11
            ofCell 0 4 = -17
            ofCell 2 4 = -99
            """);
        Script.test(check, "3 ofCell: a STONE that was taken up or is GONE is none", THREE,
                "stone 0 9 1 0 = 0", "set 0 1 = 1", "ofCell 1 2 = 0", "ofCell 1 4 = 8", "set 0 NONE = 1", "ofCell 1 2 = NONE",
                "ofCell 1 4 = -99", "set 0 1 = 1", "flood 9 30 = 1", "ofCell 1 2 = NONE", "ofCell 1 4 = -99");
        Script.test(check, "3 ofCell: whether it is GUARDED", THREE,
                "ofCell 2 3 = 0", "guard 2 true = 1", "ofCell 2 3 = 1", "ofCell 1 3 = 0", "ofCell 0 3 = 0", "guard 2 false = 1",
                "ofCell 2 3 = 0");
    }

    private static final String SIX_IN_SEVEN = """
        text d0000000;b0000000;p0 = 7
        stone 0 1 1 0 = 0
        stone 1 1 1 0 = 1
        stone 2 1 1 0 = 2
        stone 0 1 1 0 = 3
        stone 1 1 1 0 = 4
        stone 2 1 1 0 = 5
        set 0 5 = 1
        set 1 4 = 1
        set 2 3 = 1
        set 3 2 = 1
        set 4 1 = 1
        set 5 0 = 1
        """;

    private static void guard(Check check) {
        Script.test(check, "4 guard: UNKNOWN: CELLS are 0 .. 2 of three", THREE,
                "guard -1 true = -1 !", "guard 3 true = -1 !", "guard -1 false = -1 !", "guard 3 false = -1 !",
                "guard 32 true = -1 !", "guard MIN true = -1 !", "guard MAX true = -1 !", "many 5 = 0", "guard 0 true = 1",
                "guard 2 true = 1", "many 5 = 2");
        Script.test(check, "4 guard: UNKNOWN: CELLS are 0 .. 6 of seven", SEVEN,
                "guard 7 true = -1 !", "guard 6 true = 1", "guard 0 true = 1", "many 5 = 2", "ofCell 6 3 = 1", "ofCell 5 3 = 0");
        Script.test(check, "4 guard: 1, or 0: it was so", THREE,
                "guard 1 false = 0", "many 5 = 0", "guard 1 true = 1", "guard 1 true = 0", "many 5 = 1", "guard 1 false = 1",
                "guard 1 false = 0", "many 5 = 0");
        Script.test(check, "4 guard: all seven, one of them not any more", SEVEN,
                "guard 0 true = 1", "guard 1 true = 1", "guard 2 true = 1", "guard 3 true = 1", "guard 4 true = 1",
                "guard 5 true = 1", "guard 6 true = 1", "many 5 = 7", "guard 3 false = 1", "many 5 = 6", "ofCell 2 3 = 1",
                "ofCell 3 3 = 0", "ofCell 4 3 = 1");
        Script.test(check, "4 guard: with a STONE and without, none is moved", SIX_IN_SEVEN,
                "guard 0 true = 1", "guard 6 true = 1", "ofCell 0 2 = 5", "ofCell 6 2 = NONE", "many 3 = 6", "flood 1 1 = 2",
                "many 5 = 2", "ofCell 0 3 = 1", "ofCell 0 2 = 5");
    }

    private static void water(Check check) {
        Script.test(check, "5 water: OUTSIDE: 0 .. 9", THREE,
                "water -1 = -2 !", "water 0 = 0", "water 9 = 0", "water 10 = -2 !", "water MIN = -2 !", "water MAX = -2 !",
                "water NONE = -2 !", "many 6 = 9", "water 0 = 9", "many 6 = 0");
        Script.test(check, "5 water: what it was", THREE,
                "water 4 = 0", "water 4 = 4", "water 1 = 4", "water 0 = 1", "water 0 = 0");
        Script.test(check, "5 water: STATE: there is no BROOK; OUTSIDE is ahead of it",
                "water 0 = -3 !", "water 9 = -3 !", "water -1 = -2 !", "water 10 = -2 !", "many 6 = 0", THREE, "water 9 = 0");
        Script.test(check, "5 water: TOP is less by it", THREE,
                "stone 0 9 1 0 = 0", "set 0 2 = 1", "ofCell 2 4 = 7", "water 1 = 0", "ofCell 2 4 = 6", "water 9 = 1",
                "ofCell 2 4 = -2", "many 6 = 9");
    }
}
