import java.lang.reflect.InvocationTargetException;
import java.lang.reflect.Method;
import java.lang.reflect.Modifier;
import java.util.ArrayList;
import java.util.Arrays;
import java.util.List;
import java.util.Map;
import java.util.Set;
import java.util.TreeMap;

/**
 * Calls told in lines, made one after another on a new object; each has to answer what is due:
 *
 * <pre>
 * text d345;b012;p3 = 3      the text as a row of bytes in sheet 3, and the brook by it
 * row 0 2 7 -1 = 1           sheet 0 gets a row of ints: 7, -1
 * stone 0 20 1 0 = 0         a call
 * stone 0 21 1 0 = -2 !      one that is refused; it names no FAULTS, and fault() stays what it was
 * put 0 60 1 = -13 !3        one that is refused or comes to a FAULT: fault() is 3 behind it
 * </pre>
 *
 * What is refused and what only asks changes nothing: behind it all that can be asked is answered
 * as by an object on which the call was not made. PlainModel is held to the same dues.
 */
final class Script {
    private static final int MOST_CALLS = 512;
    private static final int SIZE = 4;
    private static final Set<String> NAME_FAULTS =
            Set.of("brook", "days", "odds", "sheet", "put", "cell", "copy", "as");
    private static final Set<String> ASK = Set.of("ofCell", "ofStone", "work", "stride", "can", "way", "highest",
            "pass", "days", "stands", "goes", "dug", "save", "plan", "orders", "order", "fits", "odds", "cell", "as",
            "trace", "fault", "many");
    private static final Map<String, Method> REAL = methodsOf(BrookStones.class);
    private static final Map<String, Method> PLAIN = methodsOf(PlainModel.class);

    private record Call(String name, Object[] arguments, long due, boolean refused, int fault) {
        boolean changesNothing() {
            return refused || ASK.contains(name);
        }

        @Override
        public String toString() {
            return name + Arrays.toString(arguments);
        }
    }

    private final List<Call> calls = new ArrayList<>();

    private Script(String lines) {
        for (String line : lines.split("\n")) {
            String told = line.replaceAll("#.*", "").trim();
            if (!told.isEmpty()) {
                read(told);
            }
        }
    }

    static void test(Check check, String name, String... lines) {
        Script script = new Script(String.join("\n", lines));
        check.test(name, script::run);
    }

    private static Map<String, Method> methodsOf(Class<?> type) {
        Map<String, Method> methods = new TreeMap<>();
        for (Method m : type.getDeclaredMethods()) {
            if (Modifier.isPublic(m.getModifiers())) {
                methods.put(m.getName(), m);
            }
        }
        return methods;
    }

    // ---- reading lines

    private void read(String told) {
        int is = told.lastIndexOf('=');
        String[] words = told.substring(0, is).trim().split(" +");
        String[] ends = told.substring(is + 1).trim().split(" +");
        long due = number(ends[0]);
        boolean refused = ends.length > 1;
        int fault = refused && ends[1].length() > 1 ? Integer.parseInt(ends[1].substring(1)) : 0;
        boolean namesFaults = words[0].equals("text") || NAME_FAULTS.contains(words[0]);
        if (refused && namesFaults != ends[1].length() > 1) {
            throw new IllegalArgumentException("fault() is to be told of calls that name FAULTS alone: " + told);
        }
        switch (words[0]) {
            case "text" -> readText(words.length > 1 ? words[1] : "", due, refused, fault);
            case "row" -> readRow(words, due);
            default -> calls.add(new Call(words[0], argumentsOf(words), due, refused, fault));
        }
    }

    private void readText(String text, long due, boolean refused, int fault) {
        add("sheet", 1, Brooks.TEXT_SHEET, 0, text.length());
        for (int i = 0; i < text.length(); i++) {
            add("put", 1, Brooks.TEXT_SHEET, i, (int) text.charAt(i));
        }
        calls.add(new Call("brook", new Object[] {Brooks.TEXT_SHEET, 0, 0, text.length()}, due, refused, fault));
    }

    private void readRow(String[] words, long due) {
        int sheet = (int) number(words[1]);
        add("sheet", due, sheet, (int) number(words[2]), words.length - 3);
        for (int i = 3; i < words.length; i++) {
            add("put", due, sheet, i - 3, (int) number(words[i]));
        }
    }

    private void add(String name, long due, Object... arguments) {
        calls.add(new Call(name, arguments, due, false, 0));
    }

    private static Object[] argumentsOf(String[] words) {
        Object[] arguments = new Object[words.length - 1];
        for (int a = 0; a < arguments.length; a++) {
            String word = words[a + 1];
            boolean isTruth = word.equals("true") || word.equals("false");
            arguments[a] = isTruth ? (Object) word.equals("true") : (Object) (int) number(word);
        }
        return arguments;
    }

    private static long number(String word) {
        return switch (word) {
            case "NONE" -> -9;
            case "LOST" -> Long.MIN_VALUE;
            case "MIN" -> Integer.MIN_VALUE;
            case "MAX" -> Integer.MAX_VALUE;
            default -> Long.parseLong(word);
        };
    }

    // ---- making calls

    private static long answer(Object object, String name, Object... arguments) {
        Method method = (object instanceof BrookStones ? REAL : PLAIN).get(name);
        try {
            return ((Number) method.invoke(object, arguments)).longValue();
        } catch (InvocationTargetException e) {
            throw new IllegalStateException(name + Arrays.toString(arguments) + " threw " + e.getCause());
        } catch (ReflectiveOperationException e) {
            throw new IllegalStateException(e);
        }
    }

    private static long answer(Object object, Call call) {
        return answer(object, call.name, call.arguments);
    }

    private void run(Check check) {
        answersAreDue(check, "", new BrookStones());
        answersAreDue(check, "PlainModel: ", new PlainModel());
        for (int at = 0; at < calls.size(); at++) {
            if (calls.get(at).changesNothing()) {
                nothingIsChanged(check, at);
            }
        }
    }

    private void answersAreDue(Check check, String who, Object object) {
        int made = 0;
        for (Call call : calls) {
            check.due(who + call, answer(object, call), call.due);
            made++;
            if (NAME_FAULTS.contains(call.name)) {
                check.due(who + "fault() behind " + call, answer(object, "fault"), call.fault);
                made++;
            }
        }
        check.due("calls are within those that count", made <= MOST_CALLS ? 1 : 0, 1);
    }

    /** Looked at while fault() tells SIZE, so that both a FAULT that is kept and one that is not are seen. */
    private void nothingIsChanged(Check check, int at) {
        BrookStones x = before(at);
        BrookStones other = before(at);
        Call call = calls.get(at);
        check.due(call + " by a FAULT", answer(x, call), call.name.equals("fault") ? SIZE : call.due);
        boolean names = NAME_FAULTS.contains(call.name);
        check.due("fault() behind " + call + " by a FAULT", x.fault(), names ? call.fault : SIZE);
        List<String> is = new ArrayList<>();
        List<Long> answers = askAll(x, is);
        List<Long> were = askAll(other, new ArrayList<>());
        check.due("as much is told behind " + call, answers.size(), were.size());
        for (int k = 0; k < answers.size() && k < were.size(); k++) {
            check.due(is.get(k) + " behind " + call, answers.get(k), were.get(k));
        }
        check.due("calls are within those that count", at + 3 + answers.size() <= MOST_CALLS ? 1 : 0, 1);
    }

    private BrookStones before(int at) {
        BrookStones x = new BrookStones();
        for (Call call : calls.subList(0, at)) {
            answer(x, call);
        }
        x.sheet(0, 0, -1);
        return x;
    }

    // ---- what can be asked

    private static List<Long> askAll(BrookStones x, List<String> asked) {
        List<Long> answers = new ArrayList<>();
        for (int what = 0; what < 7; what++) {
            ask(x, asked, answers, "many", what);
        }
        int cells = x.many(0);
        for (int c = 0; c < cells; c++) {
            for (int what = 0; what < 5; what++) {
                ask(x, asked, answers, "ofCell", c, what);
            }
        }
        for (int s = 0; s < 6; s++) {
            for (int what = 0; what < 6; what++) {
                ask(x, asked, answers, "ofStone", s, what);
            }
            ask(x, asked, answers, "stride", s);
        }
        askWhatComesOfIt(x, asked, answers);
        askSheets(x, asked, answers);
        ask(x, asked, answers, "trace");
        return answers;
    }

    /** PACE is told by nothing but floods. */
    private static void askWhatComesOfIt(BrookStones x, List<String> asked, List<Long> answers) {
        for (int f = 0; f < 10; f += 3) {
            ask(x, asked, answers, "stands", f, 2);
            ask(x, asked, answers, "dug", 1, f, 1);
        }
        ask(x, asked, answers, "can", 0, false);
        ask(x, asked, answers, "can", 0, true);
        ask(x, asked, answers, "way", 0, -1);
        ask(x, asked, answers, "orders", 2);
        ask(x, asked, answers, "plan", 3, 0, 0, -1);
    }

    private static void askSheets(BrookStones x, List<String> asked, List<Long> answers) {
        for (int k = 0; k < 4; k++) {
            for (int sort = 0; sort < 3; sort++) {
                for (int i = 0; i < 61; i++) {
                    if (ask(x, asked, answers, "cell", k, i, sort) == Long.MIN_VALUE) {
                        ask(x, asked, answers, "fault");
                        break;
                    }
                }
            }
        }
    }

    private static long ask(BrookStones x, List<String> asked, List<Long> answers, String name, Object... arguments) {
        long got = answer(x, name, arguments);
        asked.add(name + Arrays.toString(arguments));
        answers.add(got);
        return got;
    }
}
