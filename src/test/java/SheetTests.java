/** Promises 27 to 37. */
final class SheetTests {
    private static final long LOST = Long.MIN_VALUE;
    private static final int MAX = Integer.MAX_VALUE;
    private static final int MIN = Integer.MIN_VALUE;

    private SheetTests() { }

    static void all(Check check) {
        check.test("27 sheet", SheetTests::sheet);
        check.test("28 lose", SheetTests::lose);
        check.test("29 put", SheetTests::put);
        check.test("30 cell", SheetTests::cell);
        check.test("31 copy", SheetTests::copy);
        check.test("31 copy: from each to each", SheetTests::copyEach);
        check.test("31 copy: refusals and faults", SheetTests::copyRefused);
        check.test("32 tell", SheetTests::tell);
        check.test("33 tread", SheetTests::tread);
        check.test("34 as", SheetTests::as);
        check.test("35 trace", SheetTests::trace);
        check.test("36 fault", SheetTests::fault);
        check.test("37 many", SheetTests::many);
    }

    private static void sheet(Check check) {
        BrookStones x = new BrookStones();
        check.due("sheet(0, 0, 60)", x.sheet(0, 0, 60), 1);
        check.due("put(0, 59, 7)", x.put(0, 59, 7), 1);
        check.due("sheet(3, 2, 0)", x.sheet(3, 2, 0), 1);
        check.due("put(3, 0, 7)", x.put(3, 0, 7), -13);
        check.due("sheet(4, 3, -1)", x.sheet(4, 3, -1), -1);
        check.due("sheet(-1, 0, 1)", x.sheet(-1, 0, 1), -1);
        check.due("sheet(0, 3, -1)", x.sheet(0, 3, -1), -2);
        check.due("sheet(0, -1, 1)", x.sheet(0, -1, 1), -2);
        check.due("sheet(0, 0, 61)", x.sheet(0, 0, 61), -2);
        check.due("sheet(0, 0, MAX)", x.sheet(0, 0, MAX), -2);
        check.due("fault()", x.fault(), 0);
        check.due("sheet(0, 1, -1)", x.sheet(0, 1, -1), -14);
        check.due("fault()", x.fault(), 4);
        check.due("sheet(0, 1, MIN)", x.sheet(0, 1, MIN), -14);
        check.due("nothing is changed: cell(0, 59, 0)", x.cell(0, 59, 0), 7);
        check.due("a new row: sheet(0, 0, 60)", x.sheet(0, 0, 60), 1);
        for (int i = 0; i < 60; i++) {
            check.due("cell(0, " + i + ", 0)", x.cell(0, i, 0), 0);
        }
        x.put(0, 3, 5);
        check.due("of another SORT, shorter: sheet(0, 2, 4)", x.sheet(0, 2, 4), 1);
        check.due("cell(0, 3, 2)", x.cell(0, 3, 2), 0);
        check.due("cell(0, 4, 2)", x.cell(0, 4, 2), LOST);
        check.due("the one beside it", x.cell(1, 0, 2), LOST);
    }

    private static void lose(Check check) {
        BrookStones x = new BrookStones();
        for (int k = 0; k < 4; k++) {
            check.due("lose(" + k + ")", x.lose(k), 0);
            x.sheet(k, 0, 0);
            check.due("lose(" + k + ")", x.lose(k), 1);
            check.due("lose(" + k + ")", x.lose(k), 0);
            check.due("put(" + k + ", 0, 0)", x.put(k, 0, 0), -11);
        }
        check.due("lose(4)", x.lose(4), -1);
        check.due("lose(-1)", x.lose(-1), -1);
        check.due("it names no FAULTS", x.fault(), 1);
    }

    private static void put(Check check) {
        BrookStones x = new BrookStones();
        check.due("put(4, 0, 0)", x.put(4, 0, 0), -1);
        check.due("put(-1, 0, 0)", x.put(-1, 0, 0), -1);
        check.due("put(0, -1, 0)", x.put(0, -1, 0), -11);
        check.due("fault()", x.fault(), 1);
        int[] values = {0, 1, -1, 127, 128, -128, -129, 255, 256, 32767, 32768, -32768, -32769, 65536 + 5, MAX, MIN};
        for (int sort = 0; sort < 3; sort++) {
            x.sheet(0, sort, 2);
            for (int v : values) {
                long cut = sort == 0 ? (byte) v : sort == 1 ? (short) v : v;
                check.due("put(0, 1, " + v + ")", x.put(0, 1, v), 1);
                check.due("cell(0, 1, " + sort + ")", x.cell(0, 1, sort), cut);
            }
            check.due("cell(0, 0, " + sort + ")", x.cell(0, 0, sort), 0);
        }
        int[] beyond = {-1, 2, 60, MAX, MIN};
        for (int i : beyond) {
            check.due("put(0, " + i + ", 0)", x.put(0, i, 0), -13);
            check.due("fault()", x.fault(), 3);
        }
        check.due("put(0, 0, 9)", x.put(0, 0, 9), 1);
        check.due("fault()", x.fault(), 0);
    }

    private static void cell(Check check) {
        BrookStones x = new BrookStones();
        Brooks.write(x, 1, 1, 5, -6, 32768);
        long[] due = {5, -6, -32768};
        for (int i = 0; i < 3; i++) {
            check.due("cell(1, " + i + ", 1)", x.cell(1, i, 1), due[i]);
        }
        int[][] lost = {
            {4, 0, 0, 0}, {-1, 0, 0, 0}, {1, 0, 3, 0}, {1, 0, -1, 0}, {0, 9, 3, 0}, {0, 9, 0, 1}, {1, 9, 0, 2}, {1, 9, 2, 2},
            {1, 3, 1, 3}, {1, -1, 1, 3}, {1, MAX, 1, 3}, {1, MIN, 1, 3}
        };
        for (int[] row : lost) {
            check.due("cell(" + row[0] + ", " + row[1] + ", " + row[2] + ")", x.cell(row[0], row[1], row[2]), LOST);
            check.due("fault()", x.fault(), row[3]);
        }
        x.cell(1, 0, 1);
        check.due("fault()", x.fault(), 0);
    }

    private static void holds(Check check, BrookStones x, int k, int sort, long... due) {
        for (int i = 0; i < due.length; i++) {
            check.due("cell(" + k + ", " + i + ", " + sort + ")", x.cell(k, i, sort), due[i]);
        }
    }

    private static void copy(Check check) {
        BrookStones x = new BrookStones();
        Brooks.write(x, 0, 1, 1, 2, 3, 4, 5);
        Brooks.write(x, 1, 1, 9, 9, 9);
        check.due("copy(0, 1, 1, 0, 2)", x.copy(0, 1, 1, 0, 2), 2);
        holds(check, x, 1, 1, 2, 3, 9);
        check.due("copy(0, 0, 0, 1, 4)", x.copy(0, 0, 0, 1, 4), 4);
        holds(check, x, 0, 1, 1, 1, 2, 3, 4);
        check.due("copy(0, 1, 0, 0, 4)", x.copy(0, 1, 0, 0, 4), 4);
        holds(check, x, 0, 1, 1, 2, 3, 4, 4);
        check.due("copy(0, 5, 1, 3, 0)", x.copy(0, 5, 1, 3, 0), 0);
        check.due("copy(0, 2, 0, 2, 3) at its own place", x.copy(0, 2, 0, 2, 3), 3);
        holds(check, x, 0, 1, 1, 2, 3, 4, 4);
        check.due("fault()", x.fault(), 0);
    }

    private static void copyEach(Check check) {
        for (int k = 0; k < 4; k++) {
            for (int other = 0; other < 4; other++) {
                BrookStones x = new BrookStones();
                for (int sheet = 0; sheet < 4; sheet++) {
                    x.sheet(sheet, 2, 60);
                    for (int i = 0; i < 60; i += 59) {
                        x.put(sheet, i, 100 * sheet + i);
                    }
                }
                check.due("copy(" + k + ", 0, " + other + ", 0, 60)", x.copy(k, 0, other, 0, 60), 60);
                for (int sheet = 0; sheet < 4; sheet++) {
                    long from = sheet == other ? k : sheet;
                    check.due("cell(" + sheet + ", 0, 2)", x.cell(sheet, 0, 2), 100 * from);
                    check.due("cell(" + sheet + ", 59, 2)", x.cell(sheet, 59, 2), 100 * from + 59);
                }
                x.sheet(other, 2, 60);
                check.due("cell(" + other + ", 59, 2) anew", x.cell(other, 59, 2), 0);
            }
        }
    }

    private static void copyRefused(Check check) {
        BrookStones x = new BrookStones();
        Brooks.write(x, 0, 1, 1, 2, 3, 4, 5);
        Brooks.write(x, 1, 1, 9, 9, 9);
        Brooks.write(x, 2, 2, 8, 8, 8);
        int[][] due = {
            {4, 0, 0, 0, 1, -1}, {0, 0, 4, 0, 1, -1}, {-1, 0, 3, 0, 1, -1}, {0, 0, -1, 0, 1, -1}, {3, -1, 2, -1, -1, -11},
            {2, -1, 3, -1, -1, -11}, {3, -1, 3, -1, -1, -11}, {0, -1, 2, -1, -1, -12}, {2, 0, 0, 0, 0, -12}, {0, -1, 1, 0, 1, -13},
            {0, 0, 1, -1, 1, -13}, {0, 0, 1, 0, -1, -13}, {0, 0, 1, 0, 4, -13}, {0, 3, 1, 0, 3, -13}, {0, 0, 1, 1, 3, -13},
            {0, 6, 1, 0, 0, -13}, {0, 0, 1, 4, 0, -13}, {0, MAX, 1, 0, 1, -13}, {0, 0, 1, MAX, 1, -13}, {0, 1, 1, 1, MAX, -13},
            {0, MAX, 1, MAX, MAX, -13}, {0, MIN, 1, 0, MIN, -13}, {0, 0, 1, 0, MIN, -13}
        };
        for (int[] row : due) {
            check.due("copy" + java.util.Arrays.toString(row), x.copy(row[0], row[1], row[2], row[3], row[4]), row[5]);
            check.due("fault()", x.fault(), row[5] <= -11 ? -10 - row[5] : 0);
        }
        holds(check, x, 0, 1, 1, 2, 3, 4, 5);
        holds(check, x, 1, 1, 9, 9, 9);
        holds(check, x, 2, 2, 8, 8, 8);
    }

    private static void tell(Check check) {
        BrookStones x = Brooks.five();
        int[] told = {3, 102, 110, 9};
        int[][] bodies = {{1}, {2, 1}, {3, 2, 1, 1}, {1}};
        int trace = 0;
        for (int s = 0; s < 4; s++) {
            check.due("tell(" + s + ")", x.tell(s), told[s]);
            for (int body : bodies[s]) {
                trace = 31 * trace + body;
            }
            check.due("trace()", x.trace(), trace);
        }
        check.due("tell(4)", x.tell(4), -1);
        check.due("tell(-1)", x.tell(-1), -1);
        check.due("trace() as before", x.trace(), trace);
        x.set(1, 0);
        x.flood(9, 30);
        check.due("one that is GONE: tell(1)", x.tell(1), 102);
    }

    private static void tread(Check check) {
        BrookStones x = Brooks.five();
        int[] due = {0, 1, 30, 3};
        int[] bodies = {4, 4, 5, 4};
        int trace = 0;
        for (int s = 0; s < 4; s++) {
            check.due("tread(" + s + ")", x.tread(s), due[s]);
            trace = 31 * trace + bodies[s];
            check.due("trace()", x.trace(), trace);
        }
        check.due("tread(4)", x.tread(4), -1);
        check.due("tread(-1)", x.tread(-1), -1);
        check.due("trace() as before", x.trace(), trace);
    }

    private static void as(Check check) {
        BrookStones x = Brooks.five();
        for (int s = 0; s < 3; s++) {
            for (int kind = 0; kind < 3; kind++) {
                check.due("as(" + s + ", " + kind + ")", x.as(s, kind), kind <= s ? 1 : -12);
                check.due("fault()", x.fault(), kind <= s ? 0 : 2);
            }
        }
        x.as(0, 2);
        check.due("as(0, 3)", x.as(0, 3), -2);
        check.due("fault()", x.fault(), 0);
        x.as(0, 2);
        check.due("as(4, 3)", x.as(4, 3), -1);
        check.due("fault()", x.fault(), 0);
        check.due("as(0, -1)", x.as(0, -1), -2);
        check.due("as(-1, 0)", x.as(-1, 0), -1);
    }

    private static void trace(Check check) {
        BrookStones x = Brooks.five();
        int trace = 0;
        for (int turn = 0; turn < 20; turn++) {
            check.due("trace()", x.trace(), trace);
            x.tell(2);
            for (int body : new int[] {3, 2, 1, 1}) {
                trace = 31 * trace + body;
            }
        }
        Brooks.read(x, "d000;b000;p0");
        check.due("trace() by another brook", x.trace(), trace);
    }

    private static void fault(Check check) {
        BrookStones x = Brooks.five();
        check.due("fault() of a brook that was taken", x.fault(), 0);
        x.put(0, 0, 0);
        check.due("fault()", x.fault(), 1);
        check.due("fault() again", x.fault(), 1);
        // Calls that name no FAULTS leave it, well or refused.
        x.walker(1);
        x.walker(0);
        x.stone(9, 9, 9, 9);
        x.can(0, false);
        x.lose(9);
        x.tell(0);
        x.plan(1, 0, 0, -1);
        x.many(0);
        check.due("fault() as before", x.fault(), 1);
        x.brook(9, 0, 0, 0);
        check.due("fault(): brook was refused", x.fault(), 0);
        x.put(0, 0, 0);
        x.days(9, 0, 0, 0, 0);
        check.due("fault(): days was refused", x.fault(), 0);
        x.put(0, 0, 0);
        x.odds(9, 0, 0, 0, 0, 0);
        check.due("fault(): odds was refused", x.fault(), 0);
        x.put(0, 0, 0);
        x.sheet(9, 0, 0);
        check.due("fault(): sheet was refused", x.fault(), 0);
        x.put(0, 0, 0);
        x.put(9, 0, 0);
        check.due("fault(): put was refused", x.fault(), 0);
        x.put(0, 0, 0);
        x.cell(9, 0, 0);
        check.due("fault(): cell was refused", x.fault(), 0);
        x.put(0, 0, 0);
        x.copy(9, 0, 0, 0, 0);
        check.due("fault(): copy was refused", x.fault(), 0);
        x.put(0, 0, 0);
        x.as(9, 0);
        check.due("fault(): as was refused", x.fault(), 0);
        x.put(0, 0, 0);
        x.sheet(0, 0, 1);
        check.due("fault(): sheet was well", x.fault(), 0);
    }

    private static void many(Check check) {
        BrookStones x = Brooks.five();
        x.set(0, 0);
        x.set(1, 1);
        x.set(3, 4);
        x.walker(1);
        x.walker(1);
        x.guard(0, true);
        x.guard(4, true);
        x.guard(2, true);
        x.water(6);
        x.flood(2, 2);
        int[] due = {5, 4, 2, 2, 1, 3, 6};
        for (int what = 0; what <= 6; what++) {
            check.due("many(" + what + ")", x.many(what), due[what]);
        }
        check.due("many(-1)", x.many(-1), -2);
        check.due("many(7)", x.many(7), -2);
        check.due("many(MIN)", x.many(MIN), -2);
    }
}
