import java.lang.reflect.Method;
import java.util.LinkedHashMap;
import java.util.Map;

/**
 * Long runs of calls, made by a counter and no chance, on BrookStones and on PlainModel: each
 * answer has to be the same. Most arguments are good ones; the rest are edges and wrong ones.
 */
final class ModelTests {
    private static final int[] ODD_NUMBERS = {
        -1, -2, -3, -4, -9, -10, 0, 1, 2, 3, 4, 5, 6, 7, 8, 9, 10, 20, 21, 30, 31, 60, 61, 99, 100,
        127, 128, 255, 256, 32767, 32768, -128, -129, 65536, Integer.MAX_VALUE, Integer.MIN_VALUE,
        Integer.MAX_VALUE - 1, Integer.MIN_VALUE + 1, 1 << 30, -100
    };

    // A letter an argument: what a good one is, is told in argument().
    private static final Map<String, String> CALLS = new LinkedHashMap<>();
    static {
        String[] calls = {
            "brook kon#", "ofCell cw", "guard cb", "water v", "stone tHWL", "ofStone sW", "set sC",
            "work sc", "walker r", "stride x", "can xb", "way xq", "highest xb", "pass xx",
            "days xkoin", "stands fR", "goes cf", "dug cfR", "flood fS", "save fRB", "plan rfRQ",
            "orders r", "order rq", "fits mR", "odds xkoiRB", "sheet koN", "lose k", "put kiV",
            "cell kio", "copy kikin", "tell s", "tread s", "as st", "trace ", "fault ", "many w"
        };
        for (String call : calls) {
            int gap = call.indexOf(' ');
            CALLS.put(call.substring(0, gap), call.substring(gap + 1));
        }
    }

    private long seed;
    private final BrookStones real = new BrookStones();
    private final PlainModel plain = new PlainModel();
    private final Map<String, Method[]> methods = new LinkedHashMap<>();
    private final StringBuilder story = new StringBuilder();
    private int cells;

    private ModelTests(long seed) {
        this.seed = seed * 7919 + 17;
        for (Method m : BrookStones.class.getDeclaredMethods()) {
            if (java.lang.reflect.Modifier.isPublic(m.getModifiers())) {
                try {
                    Method same = PlainModel.class.getMethod(m.getName(), m.getParameterTypes());
                    methods.put(m.getName(), new Method[] {m, same});
                } catch (NoSuchMethodException e) {
                    throw new IllegalStateException(e);
                }
            }
        }
    }

    static void runs(Check check, int from, int to) {
        for (int run = from; run < to; run++) {
            String wrong = new ModelTests(run).run();
            check.due("run " + run + ": " + wrong, wrong.length(), 0);
        }
    }

    /** PLANS by all STRIDES, where many rows are as good as one another and floods dig near to HOLD. */
    static void plans(Check check, int from, int to, int mostCells) {
        for (int run = from; run < to; run++) {
            String wrong = new ModelTests(run).runOfPlans(mostCells);
            check.due("run " + run + ": " + wrong, wrong.length(), 0);
        }
    }

    /** TEXTS with one code changed, left out, put in or cut behind: each is judged alike. */
    static void texts(Check check) {
        for (int run = 0; run < 120; run++) {
            String wrong = new ModelTests(run).runOfTexts(run % 3);
            check.due("run " + run + ": " + wrong, wrong.length(), 0);
        }
    }

    private int below(int bound) {
        seed = seed * 6364136223846793005L + 1442695040888963407L;
        return (int) ((seed >>> 33) % bound);
    }

    /** The story of the first answers that differ; an empty text: none does. */
    private String run() {
        String[] names = CALLS.keySet().toArray(new String[0]);
        String wrong = settle();
        for (int call = 0; call < 380 && wrong.isEmpty(); call++) {
            if (below(60) == 0) {
                wrong = settle();
                call += 40;
                continue;
            }
            String name = names[below(names.length)];
            // A flood or a lost sheet at every turn would leave little to look at.
            boolean spoils = name.equals("flood") || name.equals("lose") || name.equals("sheet") || name.equals("brook");
            if (spoils && below(6) != 0) {
                continue;
            }
            wrong = both(name, arguments(name));
        }
        return wrong;
    }

    private String runOfPlans(int mostCells) {
        cells = 3 + below(mostCells - 2);
        String wrong = brookBy(aText(1 + below(3), 1 + below(9), 1 + below(4)), below(3));
        int stones = 2 + below(5);
        int heaviest = 1 + below(9);
        int farthest = 1 + below(4);
        for (int s = 0; s < stones && wrong.isEmpty(); s++) {
            wrong = both("stone", below(3), 1 + below(12), 1 + below(heaviest), below(farthest));
        }
        for (int c = 0; c < cells && wrong.isEmpty(); c++) {
            wrong = both("guard", c, below(4) == 0);
        }
        if (wrong.isEmpty()) {
            wrong = both("water", below(4));
        }
        if (wrong.isEmpty() && below(4) == 0) {
            wrong = both("set", 1, 1);
            wrong = wrong + both("flood", below(10), below(5));
        }
        for (int call = 0; call < 4 && wrong.isEmpty(); call++) {
            int stride = 1 + below(cells);
            int f = below(6);
            int rounds = below(3) == 0 ? 0 : 1 + below(below(2) == 0 ? 30 : 4);
            for (int q = -2; q < cells && wrong.isEmpty(); q++) {
                // One answer of a row that is too dear to look for anew is as good as another.
                wrong = q < 0 || cells < 6 || below(3) == 0 ? both("plan", stride, f, rounds, q) : "";
            }
        }
        return wrong;
    }

    /** One change, at each place; more than these texts would be more calls than an object is used for. */
    private String runOfTexts(int change) {
        cells = 3 + below(5);
        StringBuilder good = aText(10, 10, 10);
        String wrong = "";
        for (int place = 0; place <= good.length() && wrong.isEmpty(); place++) {
            StringBuilder text = new StringBuilder(good);
            char code = "db;p0579/:\0x".charAt(below(12));
            if (change == 0) {
                text.insert(place, code);
            } else if (change == 1) {
                text.setLength(place);
            } else if (place < text.length()) {
                text.setCharAt(place, code);
            }
            wrong = brookBy(text, below(3));
        }
        return wrong;
    }

    private StringBuilder aText(int depths, int beds, int paces) {
        StringBuilder text = new StringBuilder("d");
        digits(text, cells, depths);
        digits(text.append(";b"), cells, beds);
        return text.append(";p").append(below(paces));
    }

    private String brookBy(StringBuilder text, int sort) {
        String wrong = both("sheet", 0, sort, text.length());
        for (int i = 0; i < text.length() && wrong.isEmpty(); i++) {
            wrong = both("put", 0, i, (int) text.charAt(i));
        }
        return wrong.isEmpty() ? both("brook", 0, sort, 0, text.length()) : wrong;
    }

    /** A text in a sheet, a brook by it, stones, some of them set, walkers, weights. */
    private String settle() {
        cells = 3 + below(below(3) == 0 ? 5 : 3);
        String wrong = brookBy(aText(1 + below(9), 1 + below(9), 1 + below(9)), below(3));
        int stones = below(7);
        for (int s = 0; s < stones && wrong.isEmpty(); s++) {
            wrong = both("stone", below(3), 1 + below(1 + below(20)), 1 + below(9), below(10));
            if (wrong.isEmpty() && below(4) != 0) {
                wrong = both("set", s, below(cells));
            }
        }
        for (int x = 0; x < 3 && wrong.isEmpty(); x++) {
            wrong = both("walker", 1 + below(1 + below(9)));
        }
        if (wrong.isEmpty()) {
            wrong = both("sheet", 1, 2, 12);
        }
        for (int i = 0; i < 12 && wrong.isEmpty(); i++) {
            wrong = both("put", 1, i, below(2) * below(10));
        }
        return wrong;
    }

    private void digits(StringBuilder text, int many, int bound) {
        for (int c = 0; c < many; c++) {
            text.append(below(bound));
        }
    }

    private Object[] arguments(String name) {
        String kinds = CALLS.get(name);
        Object[] made = new Object[kinds.length()];
        boolean oneIsOdd = below(8) == 0;
        int odd = made.length == 0 ? 0 : below(made.length);
        for (int a = 0; a < made.length; a++) {
            if (kinds.charAt(a) == 'b') {
                made[a] = below(2) == 0;
            } else {
                made[a] = oneIsOdd && a == odd ? ODD_NUMBERS[below(ODD_NUMBERS.length)] : argument(kinds.charAt(a));
            }
        }
        return made;
    }

    private int argument(char kind) {
        switch (kind) {
            case 'k': return below(3) == 0 ? below(4) : below(2);
            case 'o': return below(3) == 0 ? below(3) : 2;
            case 'i': return below(4);
            case 'n': return below(5);
            case '#': return 12 + 2 * below(5);
            case 'N': return below(61);
            case 'V': return below(2) == 0 ? "db;p0123456789".charAt(below(14)) : below(11);
            case 'c': return below(cells);
            case 'C': return below(4) == 0 ? -9 : below(cells);
            case 's': return below(6);
            case 'x': return below(3);
            case 'w': return below(8);
            case 'W': return below(6);
            case 'v': return below(1 + below(10));
            case 't': return below(3);
            case 'H': return 1 + below(20);
            case 'L': return below(10);
            case 'r': return 1 + below(1 + below(9));
            case 'q': return below(8) - 1;
            case 'Q': return below(cells + 2) - 2;
            case 'f': return below(1 + below(10));
            case 'R': return below(1 + below(31));
            case 'S': return below(3);
            case 'B': return below(2);
            case 'm': return below(2) == 0 ? real.stands(below(10), below(31)) : below(1 << cells);
            default: throw new IllegalStateException("no such kind: " + kind);
        }
    }

    private String both(String name, Object... arguments) {
        try {
            Object got = methods.get(name)[0].invoke(real, arguments);
            Object want = methods.get(name)[1].invoke(plain, arguments);
            story.append(name).append(java.util.Arrays.toString(arguments)).append(" = ").append(got).append('\n');
            if (got.equals(want)) {
                return "";
            }
            return story + "due is " + want;
        } catch (ReflectiveOperationException e) {
            return story + name + java.util.Arrays.toString(arguments) + ": " + e.getCause();
        }
    }
}
