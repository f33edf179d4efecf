import java.io.IOException;
import java.lang.management.ManagementFactory;
import java.lang.reflect.Constructor;
import java.lang.reflect.Field;
import java.lang.reflect.Method;
import java.lang.reflect.Modifier;
import java.nio.file.Files;
import java.nio.file.Path;
import java.util.ArrayList;
import java.util.Arrays;
import java.util.List;
import java.util.TreeSet;
import java.util.regex.Pattern;

/** The public face, and those rules of LANGUAGE.md that can be looked at from outside. */
final class FaceTests {
    private static final String[] FACE = {
        "int brook(int,int,int,int)", "int ofCell(int,int)", "int guard(int,boolean)", "int water(int)",
        "int stone(int,int,int,int)", "int ofStone(int,int)", "int set(int,int)", "int work(int,int)", "int walker(int)",
        "int stride(int)", "int can(int,boolean)", "int way(int,int)", "int highest(int,boolean)", "int pass(int,int)",
        "int days(int,int,int,int,int)", "int stands(int,int)", "int goes(int,int)", "int dug(int,int,int)",
        "int flood(int,int)", "int save(int,int,int)", "int plan(int,int,int,int)", "int orders(int)", "int order(int,int)",
        "int fits(int,int)", "long odds(int,int,int,int,int,int)", "int sheet(int,int,int)", "int lose(int)",
        "int put(int,int,int)", "long cell(int,int,int)", "int copy(int,int,int,int,int)", "int tell(int)", "int tread(int)",
        "int as(int,int)", "int trace()", "int fault()", "int many(int)"
    };

    private FaceTests() { }

    static void all(Check check) {
        check.test("the constants", FaceTests::constants);
        check.test("the face has what the document has, and no more", FaceTests::members);
        check.test("no private method bears a public one's name", FaceTests::names);
        check.test("the source keeps to the rules that a search can see", FaceTests::source);
        check.test("a run finds room: what its dearest calls make", FaceTests::room);
        check.test("no call throws, for no arguments", FaceTests::wildArguments);
    }

    private static void constants(Check check) {
        check.due("UNKNOWN", BrookStones.UNKNOWN, -1);
        check.due("OUTSIDE", BrookStones.OUTSIDE, -2);
        check.due("STATE", BrookStones.STATE, -3);
        check.due("FULL", BrookStones.FULL, -4);
        check.due("NONE", BrookStones.NONE, -9);
        check.due("LOST", BrookStones.LOST, Long.MIN_VALUE);
    }

    private static String told(Method m) {
        StringBuilder told = new StringBuilder(m.getReturnType().getName()).append(' ').append(m.getName()).append('(');
        for (int a = 0; a < m.getParameterCount(); a++) {
            told.append(a == 0 ? "" : ",").append(m.getParameterTypes()[a].getName());
        }
        return told.append(')').toString();
    }

    private static void members(Check check) {
        TreeSet<String> face = new TreeSet<>();
        for (Method m : BrookStones.class.getDeclaredMethods()) {
            if (!Modifier.isPrivate(m.getModifiers())) {
                face.add(told(m));
                check.due(m + " is public and no static one", m.getModifiers(), Modifier.PUBLIC);
            }
        }
        TreeSet<String> due = new TreeSet<>(Arrays.asList(FACE));
        check.due("the methods are " + face, face.equals(due) ? 1 : 0, 1);
        TreeSet<String> fields = new TreeSet<>();
        for (Field f : BrookStones.class.getDeclaredFields()) {
            if (!Modifier.isPrivate(f.getModifiers())) {
                fields.add(f.getName());
            }
            boolean isStatic = Modifier.isStatic(f.getModifiers());
            check.due(f + " is no state of all objects", isStatic && !Modifier.isFinal(f.getModifiers()) ? 1 : 0, 0);
        }
        check.due("the constants are " + fields, fields.toString().equals("[FULL, LOST, NONE, OUTSIDE, STATE, UNKNOWN]") ? 1 : 0, 1);
        Constructor<?>[] made = BrookStones.class.getDeclaredConstructors();
        check.due("constructors", made.length, 1);
        check.due("the constructor is public", made[0].getModifiers(), Modifier.PUBLIC);
        check.due("its parameters", made[0].getParameterCount(), 0);
        check.due("the class is public and final", BrookStones.class.getModifiers(), Modifier.PUBLIC | Modifier.FINAL);
        for (Class<?> inside : BrookStones.class.getDeclaredClasses()) {
            check.due(inside + " is static", Modifier.isStatic(inside.getModifiers()) ? 1 : 0, 1);
            int shown = inside.getModifiers() & (Modifier.PUBLIC | Modifier.PROTECTED);
            check.due(inside + " is private or package-visible", shown, 0);
            check.due("fields of " + inside, fieldsOf(inside) <= 20 ? 1 : 0, 1);
        }
    }

    private static int fieldsOf(Class<?> type) {
        int fields = 0;
        for (Field f : type.getDeclaredFields()) {
            fields += Modifier.isStatic(f.getModifiers()) ? 0 : 1;
        }
        return fields;
    }

    private static void names(Check check) {
        List<Class<?>> all = new ArrayList<>(Arrays.asList(BrookStones.class.getDeclaredClasses()));
        all.add(BrookStones.class);
        TreeSet<String> faceNames = new TreeSet<>();
        for (String method : FACE) {
            faceNames.add(method.substring(method.indexOf(' ') + 1, method.indexOf('(')));
        }
        for (Class<?> one : all) {
            for (Method m : one.getDeclaredMethods()) {
                boolean isPrivate = Modifier.isPrivate(m.getModifiers());
                check.due("the name of " + m, isPrivate && faceNames.contains(m.getName()) ? 1 : 0, 0);
                check.due("parameters of " + m, m.getParameterCount() <= 7 ? 1 : 0, 1);
            }
        }
    }

    private static void source(Check check) {
        String source;
        try {
            source = Files.readString(Path.of("src/main/java/BrookStones.java"));
        } catch (IOException e) {
            check.due("the source can be read: " + e, 0, 1);
            return;
        }
        String code = source.replaceAll("(?s)/\\*.*?\\*/", "").replaceAll("//[^\n]*", "");
        // What is left of arrows are lambdas.
        code = code.replaceAll("(case [^;{}]*?|default)\\s*->", "");
        String[] never = {
            "\\bthrow\\b", "\\btry\\b", "\\bcatch\\b", "\\bsynchronized\\b", "\\bassert\\b", "->", "::", "\\bpackage\\b",
            "\\bprotected\\b", "\\bimport (?!java\\.util\\.)", "\\w+Exact\\b", "\\bSystem\\.(?!arraycopy)", "\\bThread\\b", "\\bRandom\\b"
        };
        for (String sign : never) {
            check.due("in the code: " + sign, Pattern.compile(sign).matcher(code).find() ? 1 : 0, 0);
        }
    }

    /** 512 of the dearest calls in the room that a run has: 7.3 million elements, as ints. */
    private static void room(Check check) {
        com.sun.management.ThreadMXBean threads = (com.sun.management.ThreadMXBean) ManagementFactory.getThreadMXBean();
        long before = threads.getCurrentThreadAllocatedBytes();
        int calls = askDearly();
        long made = threads.getCurrentThreadAllocatedBytes() - before;
        check.due("calls are made", calls, 512);
        check.due(made + " bytes are made", made < 4 * 7_300_000L ? 1 : 0, 1);
    }

    private static int askDearly() {
        BrookStones x = Brooks.by("d0000000;b0000000;p0");
        int calls = 1 + 1 + 20;
        for (int s = 0; s < 6; s++) {
            x.stone(s % 3, 20, 9, s);
            x.set(s, s);
            x.walker(2);
            calls += 3;
        }
        for (; calls < 512; calls++) {
            switch (calls % 5) {
                case 0 -> x.plan(1, 0, 30, 0);
                case 1 -> x.plan(2, 1, 1, calls % 7);
                case 2 -> x.order(9, 5);
                case 3 -> x.save(1, 30, 0);
                default -> x.way(0, 3);
            }
        }
        return calls;
    }

    /** Every call with every number that is odd in each of its places, with a brook and without. */
    private static void wildArguments(Check check) {
        int[] odd = {Integer.MIN_VALUE, -1000, -10, -9, -5, -2, -1, 0, 1, 2, 5, 6, 7, 9, 30, 31, 32, 33, 60, 64, 1 << 30, Integer.MAX_VALUE};
        for (Method m : BrookStones.class.getDeclaredMethods()) {
            if (!Modifier.isPublic(m.getModifiers())) {
                continue;
            }
            int places = m.getParameterCount();
            for (int turn = 0; turn < 3000; turn++) {
                BrookStones x = turn % 3 == 0 ? new BrookStones() : Brooks.three();
                Object[] arguments = new Object[places];
                long rest = turn * 2654435761L + 12345;
                for (int a = 0; a < places; a++) {
                    rest = rest * 6364136223846793005L + 1442695040888963407L;
                    int pick = (int) ((rest >>> 33) % odd.length);
                    arguments[a] = m.getParameterTypes()[a] == boolean.class ? (Object) (pick % 2 == 0) : (Object) odd[pick];
                }
                try {
                    m.invoke(x, arguments);
                } catch (ReflectiveOperationException e) {
                    check.due(m.getName() + Arrays.toString(arguments) + " threw " + e.getCause(), 1, 0);
                }
            }
        }
    }
}
