import java.util.ArrayList;
import java.util.Arrays;
import java.util.List;
import java.util.regex.Matcher;
import java.util.regex.Pattern;

/**
 * The document once more, in the plainest form there is: every row, every order, every way is
 * tried. It shares no thought with BrookStones but the document, so that the two can be compared.
 */
public final class PlainModel {
    private static final int UNKNOWN = -1, OUTSIDE = -2, STATE = -3, FULL = -4, NONE = -9;
    private static final long LOST = Long.MIN_VALUE;
    private static final int NULL = 1, CAST = 2, INDEX = 3, SIZE = 4;

    private static final class Stone {
        int number, kind, height, weight, lies, cell = NONE;
        boolean gone;

        int hold() { return kind == 0 ? weight : weight + 3; }
        int ease() { return kind == 2 ? 1 : 0; }
        int work(int c) { return weight * (lies + c + 1) * (kind == 2 ? 3 : 1); }
    }

    private static final class Sheet {
        int sort;
        long[] cells;
    }

    private static final class FloodSeen {
        int[] dug, went;
        Stone[] left;

        int set() {
            int set = 0;
            for (int c = 0; c < left.length; c++) { if (left[c] != null) { set += 1 << c; } }
            return set;
        }
    }

    private int n;
    private int[] depth, bed;
    private boolean[] guarded = new boolean[0];
    private int pace, water, trace, fault;
    private final List<Stone> stones = new ArrayList<>();
    private final List<Integer> walkers = new ArrayList<>();
    private final Sheet[] sheets = new Sheet[4];

    // ---- what several calls need

    private boolean isCell(int c) { return 0 <= c && c < n; }
    private boolean isStone(int s) { return 0 <= s && s < stones.size(); }
    private boolean isWalker(int x) { return 0 <= x && x < walkers.size(); }
    private boolean isSheet(int k) { return 0 <= k && k <= 3; }
    private boolean isSort(int s) { return 0 <= s && s <= 2; }

    private int machine(int number) { fault = number; return -10 - number; }

    private int faultOf(int k, int sort, int i, int count) {
        Sheet sheet = sheets[k];
        if (sheet != null && sheet.sort != sort) { return CAST; }
        if (sheet == null) { return NULL; }
        if (count < 0) { return SIZE; }
        long end = (long) i + count;
        return i < 0 || i > sheet.cells.length || end > sheet.cells.length ? INDEX : 0;
    }

    private Stone[] now() {
        Stone[] row = new Stone[n];
        for (Stone s : stones) { if (s.cell >= 0) { row[s.cell] = s; } }
        return row;
    }

    private boolean dry(Stone s, int c, int level) { return s.height - depth[c] - level >= 1; }

    private boolean isPlace(Stone[] row, int p, int level) {
        return p == -1 || p == n || row[p] != null && dry(row[p], p, level);
    }

    private int ease(Stone[] row, int p) { return p < 0 || p >= n || row[p] == null ? 0 : row[p].ease(); }

    private boolean[] reached(Stone[] row, int level, int from, int reach) {
        boolean[] seen = new boolean[n + 2];
        seen[from + 1] = true;
        boolean more = true;
        while (more) {
            more = false;
            for (int p = -1; p <= n; p++) {
                for (int q = -1; q <= n; q++) {
                    if (seen[p + 1] && !seen[q + 1] && isPlace(row, q, level)
                            && Math.abs(p - q) - ease(row, p) - ease(row, q) <= reach) {
                        seen[q + 1] = true;
                        more = true;
                    }
                }
            }
        }
        return seen;
    }

    private boolean crosses(Stone[] row, int level, int reach) { return reached(row, level, -1, reach)[n + 1]; }

    private FloodSeen seen(Stone[] row, boolean[] guards, int f, int rounds) {
        FloodSeen seen = new FloodSeen();
        seen.dug = new int[n];
        seen.went = new int[n];
        Arrays.fill(seen.went, NONE);
        seen.left = row.clone();
        for (int round = 1; round <= rounds; round++) {
            Stone[] begin = seen.left.clone();
            for (int c = 0; c < n; c++) {
                if (begin[c] == null) { continue; }
                int force = pace + f;
                if (c > 0 && begin[c - 1] != null) { force++; }
                if (c + 1 < n && begin[c + 1] != null) { force++; }
                if (guards[c]) { force = force / 2; }
                if (force > bed[c]) { seen.dug[c] += force - bed[c]; }
                if (seen.dug[c] >= begin[c].hold()) {
                    seen.left[c] = null;
                    seen.went[c] = round;
                }
            }
        }
        return seen;
    }

    private boolean isFlood(int f, int rounds) { return 0 <= f && f <= 9 && 0 <= rounds && rounds <= 30; }

    // ---- 1

    public int brook(int k, int sort, int i, int count) {
        fault = 0;
        if (!isSheet(k)) { return UNKNOWN; }
        if (!isSort(sort)) { return OUTSIDE; }
        int found = faultOf(k, sort, i, count);
        if (found != 0) { return machine(found); }
        StringBuilder text = new StringBuilder();
        for (int at = i; at < i + count; at++) {
            long code = sheets[k].cells[at];
            text.append(code > 0 && code < 128 ? (char) code : '#');
        }
        for (int m = 3; m <= 7; m++) {
            if (text.toString().matches("d[0-9]{" + m + "};b[0-9]{" + m + "};p[0-9]")) {
                take(text.toString(), m);
                return m;
            }
        }
        int good = 0;
        while (good < count && someTextGoesOn(text.substring(0, good + 1))) { good++; }
        return -100 - good;
    }

    private static boolean someTextGoesOn(String head) {
        for (int m = 3; m <= 7; m++) {
            Matcher matcher = Pattern.compile("d[0-9]{" + m + "};b[0-9]{" + m + "};p[0-9]").matcher(head);
            if (matcher.matches() || matcher.hitEnd()) { return true; }
        }
        return false;
    }

    private void take(String text, int m) {
        n = m;
        depth = new int[m];
        bed = new int[m];
        guarded = new boolean[m];
        String[] parts = text.split(";");
        for (int c = 0; c < m; c++) {
            depth[c] = parts[0].charAt(c + 1) - 48;
            bed[c] = parts[1].charAt(c + 1) - 48;
        }
        pace = parts[2].charAt(1) - 48;
        water = 0;
        stones.clear();
        walkers.clear();
    }

    public int ofCell(int c, int what) {
        if (!isCell(c)) { return UNKNOWN; }
        Stone s = now()[c];
        if (what == 0) { return depth[c]; }
        if (what == 1) { return bed[c]; }
        if (what == 2) { return s == null ? NONE : s.number; }
        if (what == 3) { return guarded[c] ? 1 : 0; }
        if (what == 4) { return s == null ? -99 : s.height - depth[c] - water; }
        return OUTSIDE;
    }

    public int guard(int c, boolean is) {
        if (!isCell(c)) { return UNKNOWN; }
        boolean was = guarded[c];
        guarded[c] = is;
        return was == is ? 0 : 1;
    }

    public int water(int v) {
        if (v < 0 || v > 9) { return OUTSIDE; }
        if (n == 0) { return STATE; }
        int was = water;
        water = v;
        return was;
    }

    // ---- 2

    public int stone(int kind, int height, int weight, int lies) {
        if (kind < 0 || kind > 2 || height < 1 || height > 20 || weight < 1 || weight > 9 || lies < 0 || lies > 9) {
            return OUTSIDE;
        }
        if (n == 0) { return STATE; }
        if (stones.size() == 6) { return FULL; }
        Stone s = new Stone();
        s.number = stones.size();
        s.kind = kind;
        s.height = height;
        s.weight = weight;
        s.lies = lies;
        stones.add(s);
        return s.number;
    }

    public int ofStone(int s, int what) {
        if (!isStone(s)) { return UNKNOWN; }
        if (what < 0 || what > 5) { return OUTSIDE; }
        Stone it = stones.get(s);
        int where = it.gone ? -5 : it.cell;
        return new int[] {it.kind, it.height, it.weight, it.lies, it.hold(), where}[what];
    }

    public int set(int s, int c) {
        if (!isStone(s)) { return UNKNOWN; }
        if (c != NONE && !isCell(c)) { return UNKNOWN; }
        Stone it = stones.get(s);
        if (it.gone) { return STATE; }
        if (c != NONE && now()[c] != null) { return STATE; }
        it.cell = c;
        return 1;
    }

    public int work(int s, int c) { return isStone(s) && isCell(c) ? stones.get(s).work(c) : UNKNOWN; }

    public int walker(int stride) {
        if (stride < 1 || stride > 9) { return OUTSIDE; }
        if (n == 0) { return STATE; }
        if (walkers.size() == 6) { return FULL; }
        walkers.add(stride);
        return walkers.size() - 1;
    }

    public int stride(int x) { return isWalker(x) ? walkers.get(x) : UNKNOWN; }

    public int can(int x, boolean pail) {
        if (!isWalker(x)) { return UNKNOWN; }
        return crosses(now(), water, walkers.get(x) - (pail ? 1 : 0)) ? 1 : 0;
    }

    public int way(int x, int q) {
        if (!isWalker(x) || q < -1) { return UNKNOWN; }
        if (!crosses(now(), water, walkers.get(x))) { return NONE; }
        List<Integer> way = new ArrayList<>();
        int strides = 1;
        while (!findWay(now(), -1, strides, walkers.get(x), way)) { strides++; }
        if (q == -1) { return strides; }
        return q < way.size() ? way.get(q) : NONE;
    }

    private boolean findWay(Stone[] row, int p, int strides, int reach, List<Integer> way) {
        if (strides == 0) { return p == n; }
        for (int q = -1; q <= n; q++) {
            if (q == p || !isPlace(row, q, water)) { continue; }
            if (Math.abs(p - q) - ease(row, p) - ease(row, q) > reach) { continue; }
            way.add(q);
            if (findWay(row, q, strides - 1, reach, way)) { return true; }
            way.remove(way.size() - 1);
        }
        return false;
    }

    public int highest(int x, boolean pail) {
        if (!isWalker(x)) { return UNKNOWN; }
        int highest = NONE;
        for (int level = 0; level <= 9; level++) {
            if (crosses(now(), level, walkers.get(x) - (pail ? 1 : 0))) { highest = level; }
        }
        return highest;
    }

    public int pass(int x, int y) {
        if (!isWalker(x) || !isWalker(y)) { return UNKNOWN; }
        Stone[] row = now();
        int set = 0;
        for (int c = 0; c < n; c++) {
            if (row[c] == null || row[c].kind == 0 || !dry(row[c], c, water)) { continue; }
            boolean all = true;
            for (int reach : new int[] {walkers.get(x), walkers.get(y)}) {
                all = all && reached(row, water, -1, reach)[c + 1] && reached(row, water, n, reach)[c + 1];
            }
            if (all) { set |= 1 << c; }
        }
        return set;
    }

    public int days(int x, int k, int sort, int i, int count) {
        fault = 0;
        if (!isWalker(x) || !isSheet(k)) { return UNKNOWN; }
        if (!isSort(sort)) { return OUTSIDE; }
        int found = faultOf(k, sort, i, count);
        if (found != 0) { return machine(found); }
        int days = 0;
        for (int at = i; at < i + count; at++) {
            long level = sheets[k].cells[at];
            if (level < 0 || level > 9) { return OUTSIDE; }
            if (crosses(now(), (int) level, walkers.get(x))) { days++; }
        }
        return days;
    }

    // ---- 3

    public int stands(int f, int rounds) {
        if (!isFlood(f, rounds)) { return OUTSIDE; }
        return n == 0 ? STATE : seen(now(), guarded, f, rounds).set();
    }

    public int goes(int c, int f) {
        if (!isCell(c)) { return UNKNOWN; }
        return isFlood(f, 0) ? seen(now(), guarded, f, 30).went[c] : OUTSIDE;
    }

    public int dug(int c, int f, int rounds) {
        if (!isCell(c)) { return UNKNOWN; }
        return isFlood(f, rounds) ? seen(now(), guarded, f, rounds).dug[c] : OUTSIDE;
    }

    public int flood(int f, int rounds) {
        if (!isFlood(f, rounds)) { return OUTSIDE; }
        if (n == 0) { return STATE; }
        FloodSeen seen = seen(now(), guarded, f, rounds);
        int gone = 0;
        for (Stone s : stones) {
            if (s.cell >= 0 && seen.left[s.cell] == null) {
                s.cell = NONE;
                s.gone = true;
                gone++;
            }
        }
        return gone;
    }

    public int save(int f, int rounds, int what) {
        if (!isFlood(f, rounds) || what < 0 || what > 1) { return OUTSIDE; }
        if (n == 0) { return STATE; }
        int best = -1;
        int most = -1;
        for (int c = n - 1; c >= 0; c--) {
            boolean[] guards = guarded.clone();
            guards[c] = true;
            int stand = Integer.bitCount(seen(now(), guards, f, rounds).set());
            if (stand >= most) {
                most = stand;
                best = c;
            }
        }
        return what == 0 ? best : most;
    }

    // ---- 4

    private int planWork, planMany;
    private int[] planRow;

    public int plan(int stride, int f, int rounds, int q) {
        if (stride < 1 || stride > 9 || !isFlood(f, rounds)) { return OUTSIDE; }
        if (q < -2 || q > n - 1) { return UNKNOWN; }
        if (n == 0) { return STATE; }
        planRow = null;
        tryRows(new Stone[n], 0, stride, f, rounds);
        if (planRow == null) { return NONE; }
        if (q == -1) { return planWork; }
        if (q == -2) { return planMany; }
        return planRow[q] == 9 ? NONE : planRow[q];
    }

    private void tryRows(Stone[] row, int c, int stride, int f, int rounds) {
        if (c == n) {
            tryRow(row, stride, f, rounds);
            return;
        }
        tryRows(row, c + 1, stride, f, rounds);
        for (Stone s : stones) {
            if (!s.gone && !Arrays.asList(row).contains(s)) {
                row[c] = s;
                tryRows(row, c + 1, stride, f, rounds);
                row[c] = null;
            }
        }
    }

    private void tryRow(Stone[] row, int stride, int f, int rounds) {
        if (!crosses(row, water, stride)) { return; }
        if (rounds > 0 && !crosses(seen(row, guarded, f, rounds).left, water, stride)) { return; }
        int work = 0;
        int many = 0;
        int[] told = new int[n];
        for (int c = 0; c < n; c++) {
            told[c] = row[c] == null ? 9 : row[c].number;
            work += row[c] == null ? 0 : row[c].work(c);
            many += row[c] == null ? 0 : 1;
        }
        boolean better = planRow == null || work < planWork || work == planWork
                && (many < planMany || many == planMany && Arrays.compare(told, planRow) < 0);
        if (better) {
            planRow = told;
            planWork = work;
            planMany = many;
        }
    }

    // ---- 5

    private int orderCount;
    private List<Integer> firstOrder;

    private void lookAtOrders(int stride) {
        orderCount = 0;
        firstOrder = null;
        goOnLaying(new Stone[n], new ArrayList<>(), stride);
    }

    private void goOnLaying(Stone[] laid, List<Integer> order, int stride) {
        Stone[] all = now();
        boolean whole = true;
        for (int c = 0; c < n; c++) {
            if (all[c] == null || laid[c] != null) { continue; }
            whole = false;
            if (!isNear(laid, all[c], c, stride)) { continue; }
            laid[c] = all[c];
            order.add(c);
            goOnLaying(laid, order, stride);
            order.remove(order.size() - 1);
            laid[c] = null;
        }
        if (whole) {
            orderCount++;
            if (firstOrder == null) { firstOrder = new ArrayList<>(order); }
        }
    }

    private boolean isNear(Stone[] laid, Stone s, int c, int stride) {
        boolean[] seen = reached(laid, water, -1, stride);
        for (int p = -1; p < n; p++) {
            if (seen[p + 1] && Math.abs(p - c) - ease(laid, p) - s.ease() <= stride) { return true; }
        }
        return false;
    }

    public int orders(int stride) {
        if (stride < 1 || stride > 9) { return OUTSIDE; }
        if (n == 0) { return STATE; }
        lookAtOrders(stride);
        return orderCount;
    }

    public int order(int stride, int q) {
        if (stride < 1 || stride > 9) { return OUTSIDE; }
        if (q < 0) { return UNKNOWN; }
        if (n == 0) { return STATE; }
        lookAtOrders(stride);
        return firstOrder == null || q >= firstOrder.size() ? NONE : firstOrder.get(q);
    }

    public int fits(int cells, int rounds) {
        for (int bit = 0; bit < 32; bit++) {
            if ((cells & 1 << bit) != 0 && !isCell(bit)) { return OUTSIDE; }
        }
        if (!isFlood(0, rounds)) { return OUTSIDE; }
        if (n == 0) { return STATE; }
        int set = 0;
        for (int f = 0; f <= 9; f++) { set += seen(now(), guarded, f, rounds).set() == cells ? 1 << f : 0; }
        return set;
    }

    public long odds(int x, int k, int sort, int i, int rounds, int which) {
        fault = 0;
        if (!isWalker(x) || !isSheet(k) || !isSort(sort)) { return LOST; }
        int found = faultOf(k, sort, i, 10);
        if (found != 0) {
            fault = found;
            return LOST;
        }
        int good = 0;
        int all = 0;
        for (int f = 0; f <= 9; f++) {
            long weight = sheets[k].cells[i + f];
            if (weight < 0 || weight > 99) { return LOST; }
            all += (int) weight;
            if (isFlood(0, rounds) && crosses(seen(now(), guarded, f, rounds).left, water, walkers.get(x))) {
                good += (int) weight;
            }
        }
        if (all == 0 || !isFlood(0, rounds) || which < 0 || which > 1) { return LOST; }
        for (int d = 999; d > 1; d--) {
            if (good % d == 0 && all % d == 0) {
                good /= d;
                all /= d;
            }
        }
        return which == 0 ? good : all;
    }

    // ---- 6

    public int sheet(int k, int sort, int count) {
        fault = 0;
        if (!isSheet(k)) { return UNKNOWN; }
        if (!isSort(sort) || count > 60) { return OUTSIDE; }
        if (count < 0) { return machine(SIZE); }
        sheets[k] = new Sheet();
        sheets[k].sort = sort;
        sheets[k].cells = new long[count];
        return 1;
    }

    public int lose(int k) {
        if (!isSheet(k)) { return UNKNOWN; }
        boolean had = sheets[k] != null;
        sheets[k] = null;
        return had ? 1 : 0;
    }

    public int put(int k, int i, int v) {
        fault = 0;
        if (!isSheet(k)) { return UNKNOWN; }
        if (sheets[k] == null) { return machine(NULL); }
        if (i < 0 || i >= sheets[k].cells.length) { return machine(INDEX); }
        sheets[k].cells[i] = sheets[k].sort == 0 ? (byte) v : sheets[k].sort == 1 ? (short) v : v;
        return 1;
    }

    public long cell(int k, int i, int sort) {
        fault = 0;
        if (!isSheet(k) || !isSort(sort)) { return LOST; }
        int found = faultOf(k, sort, i, 1);
        fault = found;
        return found == 0 ? sheets[k].cells[i] : LOST;
    }

    public int copy(int k, int i, int other, int j, int count) {
        fault = 0;
        if (!isSheet(k) || !isSheet(other)) { return UNKNOWN; }
        if (sheets[k] == null || sheets[other] == null) { return machine(NULL); }
        if (sheets[k].sort != sheets[other].sort) { return machine(CAST); }
        if (i < 0 || j < 0 || count < 0) { return machine(INDEX); }
        if ((long) i + count > sheets[k].cells.length || (long) j + count > sheets[other].cells.length) {
            return machine(INDEX);
        }
        long[] held = Arrays.copyOfRange(sheets[k].cells, i, i + count);
        for (int at = 0; at < count; at++) { sheets[other].cells[j + at] = held[at]; }
        return count;
    }

    private void leave(int number) { trace = 31 * trace + number; }

    public int tell(int s) {
        if (!isStone(s)) { return UNKNOWN; }
        int weight = stones.get(s).weight;
        int[][] bodies = {{1}, {2, 1}, {3, 2, 1, 1}};
        for (int body : bodies[stones.get(s).kind]) { leave(body); }
        return new int[] {weight, weight + 100, 2 * weight + 100}[stones.get(s).kind];
    }

    public int tread(int s) {
        if (!isStone(s)) { return UNKNOWN; }
        boolean table = stones.get(s).kind == 2;
        leave(table ? 5 : 4);
        return table ? 30 : s;
    }

    public int as(int s, int kind) {
        fault = 0;
        if (!isStone(s)) { return UNKNOWN; }
        if (kind < 0 || kind > 2) { return OUTSIDE; }
        return kind <= stones.get(s).kind ? 1 : machine(CAST);
    }

    public int trace() { return trace; }

    public int fault() { return fault; }

    public int many(int what) {
        int set = 0;
        int gone = 0;
        int guards = 0;
        for (Stone s : stones) {
            set += s.cell >= 0 ? 1 : 0;
            gone += s.gone ? 1 : 0;
        }
        for (boolean is : guarded) { guards += is ? 1 : 0; }
        if (what < 0 || what > 6) { return OUTSIDE; }
        return new int[] {n, stones.size(), walkers.size(), set, gone, guards, water}[what];
    }
}
