import java.util.Arrays;

/**
 * Stones across a brook. The words in capitals are the document's, and so are the numbers that
 * calls answer. Nothing is made behind the constructor: each row is made there and used again.
 * Sets of CELLS and of STONES are told as bits inside, too.
 */
public final class BrookStones {
    public static final int UNKNOWN = -1, OUTSIDE = -2, STATE = -3, FULL = -4, NONE = -9;
    public static final long LOST = Long.MIN_VALUE;

    private static final int LEAST_CELLS = 3, MOST_CELLS = 7;
    private static final int MOST_STONES = 6, MOST_WALKERS = 6;
    private static final int SHEETS = 4, MOST_IN_SHEET = 60;
    private static final int MOST_HEIGHT = 20, MOST_WEIGHT = 9, MOST_LIES = 9;
    private static final int MOST_WATER = 9, MOST_STRIDE = 9;
    private static final int MOST_FLOOD = 9, FLOODS = 10, MOST_ROUNDS = 30, MOST_ODD = 99;
    private static final int FLAT = 1, TABLE = 2;
    private static final int BYTES = 0, SHORTS = 1, INTS = 2;
    private static final int NULL = 1, CAST = 2, INDEX = 3, SIZE = 4;
    private static final int FAULT_BASE = -10, TEXT_BASE = -100;
    private static final int GONE = -5, NO_TOP = -99;

    private final Brook brook;
    private final Sheets sheets;
    private final Way way;
    private final Flood flood;
    private final Planner planner;
    private final Layings layings;
    private int trace;
    private int fault;

    public BrookStones() {
        brook = new Brook();
        sheets = new Sheets();
        way = new Way();
        flood = new Flood();
        planner = new Planner();
        layings = new Layings();
    }

    // ---- 1 the brook

    public int brook(int sheet, int sort, int i, int n) {
        fault = 0;
        int refusal = refusalOfCells(sheet, sort, i, n);
        if (refusal != 0) {
            return refusal;
        }
        int place = Text.firstFault(sheets, sheet, i, n);
        if (place >= 0) {
            return TEXT_BASE - place;
        }
        brook.makeAnew();
        Text.readInto(brook, sheets, sheet, i, n);
        return brook.cells;
    }

    public int ofCell(int c, int what) {
        if (!brook.isCell(c)) {
            return UNKNOWN;
        }
        int s = brook.row[c];
        switch (what) {
            case 0:
                return brook.depth[c];
            case 1:
                return brook.bed[c];
            case 2:
                return s;
            case 3:
                return has(brook.guarded, c) ? 1 : 0;
            case 4:
                return s == NONE ? NO_TOP : brook.topOf(s, c, brook.water);
            default:
                return OUTSIDE;
        }
    }

    public int guard(int c, boolean is) {
        if (!brook.isCell(c)) {
            return UNKNOWN;
        }
        if (has(brook.guarded, c) == is) {
            return 0;
        }
        brook.guarded ^= 1 << c;
        return 1;
    }

    public int water(int v) {
        if (!isWithin(v, 0, MOST_WATER)) {
            return OUTSIDE;
        }
        if (!brook.isThere()) {
            return STATE;
        }
        int was = brook.water;
        brook.water = v;
        return was;
    }

    // ---- 2 stones, walkers

    public int stone(int kind, int height, int weight, int lies) {
        if (!isWithin(kind, 0, TABLE) || !isWithin(height, 1, MOST_HEIGHT)) {
            return OUTSIDE;
        }
        if (!isWithin(weight, 1, MOST_WEIGHT) || !isWithin(lies, 0, MOST_LIES)) {
            return OUTSIDE;
        }
        if (!brook.isThere()) {
            return STATE;
        }
        if (brook.stones >= MOST_STONES) {
            return FULL;
        }
        return brook.addStone(kind, height, weight, lies);
    }

    public int ofStone(int s, int what) {
        if (!brook.isStone(s)) {
            return UNKNOWN;
        }
        switch (what) {
            case 0:
                return brook.kind[s];
            case 1:
                return brook.height[s];
            case 2:
                return brook.weight[s];
            case 3:
                return brook.lies[s];
            case 4:
                return brook.holdOf(s);
            case 5:
                return has(brook.gone, s) ? GONE : brook.cellOf(s);
            default:
                return OUTSIDE;
        }
    }

    public int set(int s, int c) {
        if (!brook.isStone(s) || (c != NONE && !brook.isCell(c))) {
            return UNKNOWN;
        }
        if (has(brook.gone, s) || (c != NONE && brook.row[c] != NONE)) {
            return STATE;
        }
        brook.takeUp(s);
        if (c != NONE) {
            brook.row[c] = s;
        }
        return 1;
    }

    public int work(int s, int c) {
        if (!brook.isStone(s) || !brook.isCell(c)) {
            return UNKNOWN;
        }
        return brook.workOf(s, c);
    }

    public int walker(int stride) {
        if (!isWithin(stride, 1, MOST_STRIDE)) {
            return OUTSIDE;
        }
        if (!brook.isThere()) {
            return STATE;
        }
        if (brook.walkers >= MOST_WALKERS) {
            return FULL;
        }
        return brook.addWalker(stride);
    }

    public int stride(int x) {
        return brook.isWalker(x) ? brook.strides[x] : UNKNOWN;
    }

    public int can(int x, boolean pail) {
        if (!brook.isWalker(x)) {
            return UNKNOWN;
        }
        return brook.isCrossed(brook.filled(), brook.water, brook.reachOf(x, pail)) ? 1 : 0;
    }

    public int way(int x, int q) {
        if (!brook.isWalker(x) || q < -1) {
            return UNKNOWN;
        }
        int strides = way.find(brook, brook.reachOf(x, false));
        if (q == -1) {
            return strides;
        }
        return q < strides && q < way.places.length ? way.places[q] : NONE;
    }

    public int highest(int x, boolean pail) {
        if (!brook.isWalker(x)) {
            return UNKNOWN;
        }
        for (int water = MOST_WATER; water >= 0; water--) {
            if (brook.isCrossed(brook.filled(), water, brook.reachOf(x, pail))) {
                return water;
            }
        }
        return NONE;
    }

    /**
     * Who comes from bank to bank comes to every DRY STONE (see farthest), and who comes to one
     * from both banks comes from bank to bank.
     */
    public int pass(int x, int y) {
        if (!brook.isWalker(x) || !brook.isWalker(y)) {
            return UNKNOWN;
        }
        // Who of the two goes less far comes across only where the other one does, too.
        int reach = Math.min(brook.reachOf(x, false), brook.reachOf(y, false));
        if (!brook.isCrossed(brook.filled(), brook.water, reach)) {
            return 0;
        }
        return brook.dry(brook.water) & brook.ofKind(FLAT);
    }

    public int days(int x, int sheet, int sort, int i, int n) {
        fault = 0;
        if (!brook.isWalker(x)) {
            return UNKNOWN;
        }
        int refusal = refusalOfCells(sheet, sort, i, n);
        if (refusal != 0) {
            return refusal;
        }
        if (!sheets.areWithin(sheet, i, n, MOST_WATER)) {
            return OUTSIDE;
        }
        int days = 0;
        for (int day = 0; day < n; day++) {
            int water = sheets.at(sheet, i + day);
            if (brook.isCrossed(brook.filled(), water, brook.reachOf(x, false))) {
                days++;
            }
        }
        return days;
    }

    // ---- 3 floods

    public int stands(int f, int rounds) {
        if (!isFlood(f, rounds)) {
            return OUTSIDE;
        }
        if (!brook.isThere()) {
            return STATE;
        }
        flood.run(brook, brook.guarded, f, rounds);
        return flood.standing;
    }

    public int goes(int c, int f) {
        if (!brook.isCell(c)) {
            return UNKNOWN;
        }
        if (!isFlood(f, MOST_ROUNDS)) {
            return OUTSIDE;
        }
        flood.run(brook, brook.guarded, f, MOST_ROUNDS);
        return flood.went[c];
    }

    public int dug(int c, int f, int rounds) {
        if (!brook.isCell(c)) {
            return UNKNOWN;
        }
        if (!isFlood(f, rounds)) {
            return OUTSIDE;
        }
        flood.run(brook, brook.guarded, f, rounds);
        return flood.dug[c];
    }

    public int flood(int f, int rounds) {
        if (!isFlood(f, rounds)) {
            return OUTSIDE;
        }
        if (!brook.isThere()) {
            return STATE;
        }
        flood.run(brook, brook.guarded, f, rounds);
        int going = brook.filled() & ~flood.standing;
        brook.loseStonesOf(going);
        return Integer.bitCount(going);
    }

    public int save(int f, int rounds, int what) {
        if (!isFlood(f, rounds) || !isWithin(what, 0, 1)) {
            return OUTSIDE;
        }
        if (!brook.isThere()) {
            return STATE;
        }
        int best = NONE;
        int most = -1;
        for (int c = 0; c < brook.cells; c++) {
            flood.run(brook, brook.guarded | 1 << c, f, rounds);
            int stand = Integer.bitCount(flood.standing);
            if (stand > most) {
                best = c;
                most = stand;
            }
        }
        return what == 0 ? best : most;
    }

    // ---- 4 plans

    public int plan(int stride, int f, int rounds, int q) {
        if (!isWithin(stride, 1, MOST_STRIDE) || !isFlood(f, rounds)) {
            return OUTSIDE;
        }
        if (!isWithin(q, -2, brook.cells - 1)) {
            return UNKNOWN;
        }
        if (!brook.isThere()) {
            return STATE;
        }
        planner.find(brook, stride, f, rounds);
        if (!planner.isFound()) {
            return NONE;
        }
        if (q == -2) {
            return planner.bestMany();
        }
        return q == -1 ? planner.bestWork() : planner.best[q];
    }

    // ---- 5 orders, what it was

    public int orders(int stride) {
        if (!isWithin(stride, 1, MOST_STRIDE)) {
            return OUTSIDE;
        }
        if (!brook.isThere()) {
            return STATE;
        }
        return layings.count(brook, stride);
    }

    public int order(int stride, int q) {
        if (!isWithin(stride, 1, MOST_STRIDE)) {
            return OUTSIDE;
        }
        if (q < 0) {
            return UNKNOWN;
        }
        if (!brook.isThere()) {
            return STATE;
        }
        return layings.cellOfFirst(brook, stride, q);
    }

    public int fits(int cells, int rounds) {
        if ((cells & -1 << brook.cells) != 0 || !isWithin(rounds, 0, MOST_ROUNDS)) {
            return OUTSIDE;
        }
        if (!brook.isThere()) {
            return STATE;
        }
        int fit = 0;
        for (int f = 0; f < FLOODS; f++) {
            flood.run(brook, brook.guarded, f, rounds);
            if (flood.standing == cells) {
                fit |= 1 << f;
            }
        }
        return fit;
    }

    public long odds(int x, int sheet, int sort, int i, int rounds, int which) {
        fault = 0;
        if (!brook.isWalker(x) || refusalOfCells(sheet, sort, i, FLOODS) != 0) {
            return LOST;
        }
        if (!sheets.areWithin(sheet, i, FLOODS, MOST_ODD)) {
            return LOST;
        }
        int all = sheets.sum(sheet, i, FLOODS);
        if (all <= 0 || !isWithin(rounds, 0, MOST_ROUNDS) || !isWithin(which, 0, 1)) {
            return LOST;
        }
        int good = weightAcross(x, sheet, i, rounds);
        int common = commonDivisor(good, all);
        if (common <= 0) {
            return LOST;
        }
        return which == 0 ? good / common : all / common;
    }

    /** The weights, together, of all f behind which this WALKER CAN. */
    private int weightAcross(int x, int sheet, int i, int rounds) {
        int good = 0;
        for (int f = 0; f < FLOODS; f++) {
            flood.run(brook, brook.guarded, f, rounds);
            if (brook.isCrossed(flood.standing, brook.water, brook.reachOf(x, false))) {
                good += sheets.at(sheet, i + f);
            }
        }
        return good;
    }

    // ---- 6 sheets, parts

    public int sheet(int k, int sort, int n) {
        fault = 0;
        if (!Sheets.isSheet(k)) {
            return UNKNOWN;
        }
        if (!Sheets.isSort(sort) || n > MOST_IN_SHEET) {
            return OUTSIDE;
        }
        if (n < 0) {
            return failBy(SIZE);
        }
        sheets.renew(k, sort, n);
        return 1;
    }

    public int lose(int k) {
        if (!Sheets.isSheet(k)) {
            return UNKNOWN;
        }
        if (!sheets.isThere(k)) {
            return 0;
        }
        sheets.clear(k);
        return 1;
    }

    public int put(int k, int i, int v) {
        fault = 0;
        if (!Sheets.isSheet(k)) {
            return UNKNOWN;
        }
        if (!sheets.isThere(k)) {
            return failBy(NULL);
        }
        if (!isWithin(i, 0, sheets.many[k] - 1)) {
            return failBy(INDEX);
        }
        sheets.write(k, i, v);
        return 1;
    }

    public long cell(int k, int i, int sort) {
        fault = 0;
        return refusalOfCells(k, sort, i, 1) == 0 ? sheets.at(k, i) : LOST;
    }

    public int copy(int k, int i, int other, int j, int n) {
        fault = 0;
        if (!Sheets.isSheet(k) || !Sheets.isSheet(other)) {
            return UNKNOWN;
        }
        if (!sheets.isThere(k) || !sheets.isThere(other)) {
            return failBy(NULL);
        }
        if (sheets.sort[k] != sheets.sort[other]) {
            return failBy(CAST);
        }
        if (n < 0 || !sheets.reaches(k, i, n) || !sheets.reaches(other, j, n)) {
            return failBy(INDEX);
        }
        sheets.move(k, i, other, j, n);
        return n;
    }

    public int tell(int s) {
        if (!brook.isStone(s)) {
            return UNKNOWN;
        }
        switch (brook.kind[s]) {
            case TABLE:
                return tellAsTable(s);
            case FLAT:
                return tellAsFlat(s);
            default:
                return tellAsStone(s);
        }
    }

    public int tread(int s) {
        if (!brook.isStone(s)) {
            return UNKNOWN;
        }
        if (brook.kind[s] == TABLE) {
            leave(5);
            return 30;
        }
        leave(4);
        return s;
    }

    public int as(int s, int kind) {
        fault = 0;
        if (!brook.isStone(s)) {
            return UNKNOWN;
        }
        if (!isWithin(kind, 0, TABLE)) {
            return OUTSIDE;
        }
        return brook.kind[s] >= kind ? 1 : failBy(CAST);
    }

    public int trace() {
        return trace;
    }

    public int fault() {
        return fault;
    }

    public int many(int what) {
        switch (what) {
            case 0:
                return brook.cells;
            case 1:
                return brook.stones;
            case 2:
                return brook.walkers;
            case 3:
                return Integer.bitCount(brook.filled());
            case 4:
                return Integer.bitCount(brook.gone);
            case 5:
                return Integer.bitCount(brook.guarded);
            case 6:
                return brook.water;
            default:
                return OUTSIDE;
        }
    }

    /** What a call answers that cannot take n cells from i on as a row of a sort; 0: it can. */
    private int refusalOfCells(int sheet, int sort, int i, int n) {
        if (!Sheets.isSheet(sheet)) {
            return UNKNOWN;
        }
        if (!Sheets.isSort(sort)) {
            return OUTSIDE;
        }
        int found = sheets.faultOfCells(sheet, sort, i, n);
        return found == 0 ? 0 : failBy(found);
    }

    private int failBy(int found) {
        fault = found;
        return FAULT_BASE - found;
    }

    private int tellAsStone(int s) {
        leave(1);
        return brook.weight[s];
    }

    private int tellAsFlat(int s) {
        leave(2);
        return tellAsStone(s) + 100;
    }

    private int tellAsTable(int s) {
        leave(3);
        int flat = tellAsFlat(s);
        return flat + tellAsStone(s);
    }

    private void leave(int body) {
        trace = 31 * trace + body;
    }

    private static boolean isFlood(int f, int rounds) {
        return isWithin(f, 0, MOST_FLOOD) && isWithin(rounds, 0, MOST_ROUNDS);
    }

    private static boolean isWithin(int v, int least, int most) {
        return v >= least && v <= most;
    }

    private static boolean has(int bits, int k) {
        return (bits >> k & 1) != 0;
    }

    private static int commonDivisor(int a, int b) {
        int greater = b;
        int rest = a;
        for (int turn = 0; turn < 64 && rest != 0; turn++) {
            int next = greater % rest;
            greater = rest;
            rest = next;
        }
        return greater;
    }

    /**
     * The farthest number that is near enough for one who goes from the near bank by these DRY
     * CELLS: across, if that is how many CELLS there are at least. To go from each DRY STONE to
     * the next one is enough: a stride over a STONE could stop at it, as that makes it shorter by
     * 1 at least, and the EASE that it leaves out is 1 at most.
     */
    private static int farthest(int dry, int tables, int cells, int reach) {
        int far = reach - 1;
        for (int c = 0; c < cells; c++) {
            if (has(dry, c)) {
                int ease = has(tables, c) ? 1 : 0;
                if (c - ease > far) {
                    return far;
                }
                far = c + ease + reach;
            }
        }
        return far;
    }

    /** What one TEXT makes: CELLS, what is in them, the STONES and the WALKERS. */
    private static final class Brook {
        private final int[] depth = new int[MOST_CELLS];
        private final int[] bed = new int[MOST_CELLS];
        private final int[] row = new int[MOST_CELLS];
        private final int[] kind = new int[MOST_STONES];
        private final int[] height = new int[MOST_STONES];
        private final int[] weight = new int[MOST_STONES];
        private final int[] lies = new int[MOST_STONES];
        private final int[] strides = new int[MOST_WALKERS];
        private int cells;
        private int pace;
        private int guarded;
        private int water;
        private int stones;
        private int gone;
        private int walkers;

        private Brook() {
            Arrays.fill(row, NONE);
        }

        private void makeAnew() {
            Arrays.fill(row, NONE);
            guarded = 0;
            water = 0;
            stones = 0;
            gone = 0;
            walkers = 0;
        }

        private boolean isThere() {
            return cells > 0;
        }

        private boolean isCell(int c) {
            return c >= 0 && c < cells;
        }

        private boolean isStone(int s) {
            return s >= 0 && s < stones;
        }

        private boolean isWalker(int x) {
            return x >= 0 && x < walkers;
        }

        private int addStone(int itsKind, int itsHeight, int itsWeight, int itLies) {
            kind[stones] = itsKind;
            height[stones] = itsHeight;
            weight[stones] = itsWeight;
            lies[stones] = itLies;
            stones++;
            return stones - 1;
        }

        private int addWalker(int itsStride) {
            strides[walkers] = itsStride;
            walkers++;
            return walkers - 1;
        }

        private int reachOf(int x, boolean pail) {
            return pail ? strides[x] - 1 : strides[x];
        }

        private int holdOf(int s) {
            return kind[s] >= FLAT ? weight[s] + 3 : weight[s];
        }

        private int easeOf(int s) {
            return kind[s] == TABLE ? 1 : 0;
        }

        private int workOf(int s, int c) {
            int once = weight[s] * (lies[s] + c + 1);
            return kind[s] == TABLE ? 3 * once : once;
        }

        private int topOf(int s, int c, int level) {
            return height[s] - depth[c] - level;
        }

        private int cellOf(int s) {
            for (int c = 0; c < cells; c++) {
                if (row[c] == s) {
                    return c;
                }
            }
            return NONE;
        }

        private void takeUp(int s) {
            int c = cellOf(s);
            if (c != NONE) {
                row[c] = NONE;
            }
        }

        private void loseStonesOf(int these) {
            for (int c = 0; c < cells; c++) {
                if (has(these, c) && row[c] != NONE) {
                    gone |= 1 << row[c];
                    row[c] = NONE;
                }
            }
        }

        /** The CELLS that have a STONE. */
        private int filled() {
            return ofKind(0);
        }

        /** The CELLS whose STONE is one of this kind, too. */
        private int ofKind(int least) {
            int found = 0;
            for (int c = 0; c < cells; c++) {
                if (row[c] != NONE && kind[row[c]] >= least) {
                    found |= 1 << c;
                }
            }
            return found;
        }

        /** The CELLS whose STONE is DRY by such WATER. */
        private int dry(int level) {
            int found = 0;
            for (int c = 0; c < cells; c++) {
                if (row[c] != NONE && topOf(row[c], c, level) >= 1) {
                    found |= 1 << c;
                }
            }
            return found;
        }

        private boolean isCrossed(int standing, int level, int reach) {
            return farthest(dry(level) & standing, ofKind(TABLE), cells, reach) >= cells;
        }
    }

    /** The SHEETS, one behind another in one row. */
    private static final class Sheets {
        private static final int NOTHING = -1;
        private final int[] sort = new int[SHEETS];
        private final int[] many = new int[SHEETS];
        private final int[] cells = new int[SHEETS * MOST_IN_SHEET];

        private Sheets() {
            Arrays.fill(many, NOTHING);
        }

        private static boolean isSheet(int k) {
            return isWithin(k, 0, SHEETS - 1);
        }

        private static boolean isSort(int sort) {
            return isWithin(sort, BYTES, INTS);
        }

        private boolean isThere(int k) {
            return many[k] != NOTHING;
        }

        private void clear(int k) {
            many[k] = NOTHING;
        }

        private void renew(int k, int itsSort, int n) {
            sort[k] = itsSort;
            many[k] = n;
            int from = k * MOST_IN_SHEET;
            Arrays.fill(cells, from, from + n, 0);
        }

        private int at(int k, int i) {
            return cells[k * MOST_IN_SHEET + i];
        }

        private void write(int k, int i, int v) {
            cells[k * MOST_IN_SHEET + i] = cut(v, sort[k]);
        }

        private static int cut(int v, int sort) {
            switch (sort) {
                case BYTES:
                    return (byte) v;
                case SHORTS:
                    return (short) v;
                default:
                    return v;
            }
        }

        private void move(int k, int i, int other, int j, int n) {
            System.arraycopy(cells, k * MOST_IN_SHEET + i, cells, other * MOST_IN_SHEET + j, n);
        }

        /** Whether n cells (0 or more) from i on are there. */
        private boolean reaches(int k, int i, int n) {
            return i >= 0 && i <= many[k] && n <= many[k] - i;
        }

        /** The FAULT that one comes to who takes n cells from i on as a row of a sort; 0: none. */
        private int faultOfCells(int k, int itsSort, int i, int n) {
            if (!isThere(k)) {
                return NULL;
            }
            if (sort[k] != itsSort) {
                return CAST;
            }
            if (n < 0) {
                return SIZE;
            }
            return reaches(k, i, n) ? 0 : INDEX;
        }

        private boolean areWithin(int k, int i, int n, int most) {
            for (int at = i; at < i + n; at++) {
                if (!isWithin(at(k, at), 0, most)) {
                    return false;
                }
            }
            return true;
        }

        private int sum(int k, int i, int n) {
            int sum = 0;
            for (int at = i; at < i + n; at++) {
                sum += at(k, at);
            }
            return sum;
        }
    }

    /** A TEXT of m CELLS: d at 0, m digits, ; b, m digits, ; p, a digit. */
    private static final class Text {
        private static int firstFault(Sheets sheets, int k, int i, int n) {
            int m = cellsTold(sheets, k, i, n);
            int whole = length(m);
            for (int place = 0; place < n && place < whole; place++) {
                if (!goesOn(sheets.at(k, i + place), place, m)) {
                    return place;
                }
            }
            return n == whole ? -1 : Math.min(n, whole);
        }

        private static void readInto(Brook brook, Sheets sheets, int k, int i, int n) {
            int m = cellsTold(sheets, k, i, n);
            for (int c = 0; c < m; c++) {
                brook.depth[c] = sheets.at(k, i + 1 + c) - '0';
                brook.bed[c] = sheets.at(k, i + m + 3 + c) - '0';
            }
            brook.pace = sheets.at(k, i + 2 * m + 5) - '0';
            brook.cells = m;
        }

        private static int length(int m) {
            return 2 * m + 6;
        }

        /** How many digits of DEPTH there are, as far as a TEXT can have so many or so few. */
        private static int cellsTold(Sheets sheets, int k, int i, int n) {
            int m = 0;
            while (m < MOST_CELLS && m + 1 < n && isDigit(sheets.at(k, i + 1 + m))) {
                m++;
            }
            return Math.max(m, LEAST_CELLS);
        }

        private static boolean goesOn(int code, int place, int m) {
            if (place == 0) {
                return code == 'd';
            }
            if (place == m + 1 || place == 2 * m + 3) {
                return code == ';';
            }
            if (place == m + 2) {
                return code == 'b';
            }
            return place == 2 * m + 4 ? code == 'p' : isDigit(code);
        }

        private static boolean isDigit(int code) {
            return isWithin(code, '0', '9');
        }
    }

    /** The WAY, looked for by strides ahead alone: one back makes none of the fewest. */
    private static final class Way {
        private static final int FAR = 99;
        private final int[] places = new int[MOST_CELLS + 1];
        // Here the near bank is 0, so that it can be a bit, and CELL c is c + 1.
        private final int[] left = new int[MOST_CELLS + 2];
        private int stops;
        private int eases;
        private int last;
        private int reach;

        /** How many strides it has, or NONE; its PLACES are in places then. */
        private int find(Brook brook, int itsReach) {
            reach = itsReach;
            last = brook.cells + 1;
            stops = 1 | brook.dry(brook.water) << 1 | 1 << last;
            eases = brook.ofKind(TABLE) << 1;
            left[last] = 0;
            for (int p = last - 1; p >= 0; p--) {
                left[p] = fewestFrom(p);
            }
            if (left[0] >= FAR) {
                return NONE;
            }
            int p = 0;
            for (int q = 0; q < left[0]; q++) {
                p = firstBehind(p);
                places[q] = p - 1;
            }
            return left[0];
        }

        private int fewestFrom(int p) {
            int fewest = FAR;
            for (int to = p + 1; to <= last; to++) {
                if (isStride(p, to)) {
                    fewest = Math.min(fewest, left[to] + 1);
                }
            }
            return fewest;
        }

        private int firstBehind(int p) {
            for (int to = p + 1; to < last; to++) {
                if (isStride(p, to) && left[to] == left[p] - 1) {
                    return to;
                }
            }
            return last;
        }

        private boolean isStride(int p, int to) {
            int apart = to - p - (eases >> p & 1) - (eases >> to & 1);
            return has(stops, p) && has(stops, to) && apart <= reach;
        }
    }

    /** A FLOOD, ROUND by ROUND: what it digs, when STONES go and what stands behind it. */
    private static final class Flood {
        private final int[] dug = new int[MOST_CELLS];
        private final int[] went = new int[MOST_CELLS];
        private int standing;

        private void run(Brook brook, int guarded, int f, int rounds) {
            standing = brook.filled();
            Arrays.fill(dug, 0);
            Arrays.fill(went, NONE);
            // What does not dig in one ROUND digs in none of the next ones: the same STONES stand.
            boolean digs = true;
            for (int round = 1; round <= rounds && digs; round++) {
                digs = goRound(brook, guarded, f, round);
            }
        }

        private boolean goRound(Brook brook, int guarded, int f, int round) {
            boolean digs = false;
            int before = standing;
            for (int c = 0; c < brook.cells; c++) {
                if (has(before, c)) {
                    int more = digging(brook, c, before, guarded, f);
                    digs = digs || more > 0;
                    dug[c] += more;
                    if (dug[c] >= brook.holdOf(brook.row[c])) {
                        standing &= ~(1 << c);
                        went[c] = round;
                    }
                }
            }
            return digs;
        }

        /** What is DUG at a CELL in one ROUND, if these CELLS have STONES as it begins. */
        private static int digging(Brook brook, int c, int standing, int guarded, int f) {
            int beside = (standing << 1 >> c & 1) + (standing >> c + 1 & 1);
            int force = brook.pace + f + beside;
            int halvings = guarded >> c & 1;
            int above = (force >> halvings) - brook.bed[c];
            return above > 0 ? above : 0;
        }
    }

    /**
     * A PLAN, looked for through rows that stand whole, CELL by CELL, from the last row to the
     * first: so, of rows as good as one another, the one that is taken last is the first. The best
     * row stands whole: if some of it went, the rest alone would be a row of less WORK; it is dug
     * less then, stands, and is crossed as it was behind the FLOOD.
     */
    private static final class Planner {
        // A row's cost tells WORK and, behind it, how many STONES: so the lower one is the better.
        private static final int PER_WORK = MOST_STONES + 1;
        private static final int NOTHING_YET = 1_000_000, NO_WAY = NOTHING_YET + 1;
        private final int[] row = new int[MOST_CELLS];
        private final int[] best = new int[MOST_CELLS];
        // Of each STONE the CELLS in which it is of use: DRY, and so that it outlasts the FLOOD alone.
        private final int[] uses = new int[MOST_STONES];
        // The least cost from a CELL on, of who comes so far until there, if STONES were not used up.
        private final int[][] least = new int[MOST_CELLS + 1][MOST_CELLS + 1];
        private int bestCost;
        private int stride;
        private int f;
        private int rounds;

        private void find(Brook brook, int itsStride, int itsF, int itsRounds) {
            stride = itsStride;
            f = itsF;
            rounds = itsRounds;
            bestCost = NOTHING_YET;
            for (int s = 0; s < brook.stones; s++) {
                uses[s] = has(brook.gone, s) ? 0 : usesOf(brook, s);
            }
            lookAhead(brook);
            Arrays.fill(row, NONE);
            layFrom(this, brook, 0, 0, 0, 0, Math.min(stride - 1, brook.cells));
        }

        private boolean isFound() {
            return bestCost != NOTHING_YET;
        }

        private int bestWork() {
            return bestCost / PER_WORK;
        }

        private int bestMany() {
            return bestCost % PER_WORK;
        }

        /** STONES beside it dig more: what goes alone goes in any row. What is not DRY is WORK for nothing. */
        private int usesOf(Brook brook, int s) {
            int found = 0;
            for (int c = 0; c < brook.cells; c++) {
                if (brook.topOf(s, c, brook.water) >= 1 && outlasts(brook, s, c, 0)) {
                    found |= 1 << c;
                }
            }
            return found;
        }

        private void lookAhead(Brook brook) {
            Arrays.fill(least[brook.cells], NO_WAY);
            least[brook.cells][brook.cells] = 0;
            for (int c = brook.cells - 1; c >= 0; c--) {
                for (int far = 0; far <= brook.cells; far++) {
                    least[c][far] = leastFrom(brook, c, far);
                }
            }
        }

        private int leastFrom(Brook brook, int c, int far) {
            int found = least[c + 1][far];
            for (int s = 0; s < brook.stones; s++) {
                if (helps(brook, s, c, far)) {
                    int behind = least[c + 1][farBehind(brook, s, c)];
                    found = Math.min(found, costOf(brook, s, c) + behind);
                }
            }
            return found;
        }

        /** Goes on with a row from CELL c on, by which one comes as far as far until there. */
        private static void layFrom(Planner p, Brook brook, int c, int used, int filled, int cost, int far) {
            if (cost + p.least[c][far] > p.bestCost || !p.lastOnesStand(brook, c, filled)) {
                return;
            }
            if (c >= brook.cells) {
                p.take(cost);
                return;
            }
            p.row[c] = NONE;
            layFrom(p, brook, c + 1, used, filled, cost, far);
            for (int s = brook.stones - 1; s >= 0; s--) {
                if (!has(used, s) && p.helps(brook, s, c, far)) {
                    p.row[c] = s;
                    int newCost = cost + costOf(brook, s, c);
                    int newFar = p.farBehind(brook, s, c);
                    layFrom(p, brook, c + 1, used | 1 << s, filled | 1 << c, newCost, newFar);
                }
            }
        }

        private void take(int cost) {
            bestCost = cost;
            System.arraycopy(row, 0, best, 0, MOST_CELLS);
        }

        /** Whether the two CELLS ahead of CELL c keep their STONES, as far as the row is laid. */
        private boolean lastOnesStand(Brook brook, int c, int filled) {
            for (int k = Math.max(c - 2, 0); k < c; k++) {
                if (has(filled, k) && !outlasts(brook, row[k], k, filled)) {
                    return false;
                }
            }
            return true;
        }

        private boolean helps(Brook brook, int s, int c, int far) {
            return has(uses[s], c) && c - brook.easeOf(s) <= far;
        }

        /** The farthest number that is near enough from there, the far bank at most. */
        private int farBehind(Brook brook, int s, int c) {
            return Math.min(c + brook.easeOf(s) + stride, brook.cells);
        }

        private static int costOf(Brook brook, int s, int c) {
            return PER_WORK * brook.workOf(s, c) + 1;
        }

        /** Whether a STONE stands behind the FLOOD, if all these CELLS keep theirs. */
        private boolean outlasts(Brook brook, int s, int c, int filled) {
            return rounds * Flood.digging(brook, c, filled, brook.guarded, f) < brook.holdOf(s);
        }
    }

    /** The ORDERS: of each set of CELLS that are laid already in how many ways one can go on. */
    private static final class Layings {
        private final int[] ways = new int[1 << MOST_CELLS];
        private int all;

        private int count(Brook brook, int stride) {
            all = brook.filled();
            for (int laid = all; laid >= 0; laid--) {
                if ((laid & ~all) == 0) {
                    ways[laid] = waysFrom(brook, laid, stride);
                }
            }
            return ways[0];
        }

        private int waysFrom(Brook brook, int laid, int stride) {
            if (laid == all) {
                return 1;
            }
            int next = layable(brook, laid, stride);
            int sum = 0;
            for (int c = 0; c < brook.cells; c++) {
                if (has(next, c)) {
                    sum += ways[laid | 1 << c];
                }
            }
            return sum;
        }

        /** The CELLS that are near enough to lay the next STONE, if these are laid. */
        private int layable(Brook brook, int laid, int stride) {
            int tables = brook.ofKind(TABLE);
            int far = farthest(brook.dry(brook.water) & laid, tables, brook.cells, stride);
            int found = 0;
            for (int c = 0; c < brook.cells; c++) {
                boolean isLeft = has(all & ~laid, c);
                if (isLeft && c - (tables >> c & 1) <= far) {
                    found |= 1 << c;
                }
            }
            return found;
        }

        private int cellOfFirst(Brook brook, int stride, int q) {
            if (count(brook, stride) == 0 || q >= Integer.bitCount(all)) {
                return NONE;
            }
            int laid = 0;
            int c = NONE;
            for (int k = 0; k <= q; k++) {
                c = firstThatGoesOn(brook, laid, stride);
                if (c == NONE) {
                    return NONE;
                }
                laid |= 1 << c;
            }
            return c;
        }

        private int firstThatGoesOn(Brook brook, int laid, int stride) {
            int next = layable(brook, laid, stride);
            for (int c = 0; c < brook.cells; c++) {
                if (has(next, c) && ways[laid | 1 << c] > 0) {
                    return c;
                }
            }
            return NONE;
        }
    }
}
