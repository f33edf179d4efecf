import java.io.File;
import java.io.IOException;
import java.nio.file.Files;
import java.nio.file.Path;
import java.util.regex.Matcher;
import java.util.regex.Pattern;
import java.util.stream.Stream;

/** The example in README.md: it compiles, and each call answers the number that stands behind it. */
final class ReadmeTests {
    private static final Pattern ASKED = Pattern.compile("^(int \\w+ = )?(x\\.\\w+\\(.*\\));\\s*// (-?\\d+).*$");
    private static final int LEAST_CALLS = 25;

    private ReadmeTests() { }

    static void all(Check check) {
        check.test("the example in README.md answers what it says", ReadmeTests::example);
    }

    private static void example(Check check) {
        try {
            String code = exampleOf(Files.readString(Path.of("README.md")));
            StringBuilder body = new StringBuilder();
            int calls = 0;
            for (String line : code.split("\n")) {
                Matcher asked = ASKED.matcher(line);
                calls += asked.matches() ? 1 : 0;
                body.append(asked.matches() ? asDue(asked) : line).append('\n');
            }
            check.due("calls whose answers are told", calls >= LEAST_CALLS ? 1 : 0, 1);
            check.due("wrong ones", run(body.toString()), 0);
        } catch (IOException | InterruptedException e) {
            check.due("the example is run: " + e, 1, 0);
        }
    }

    private static String exampleOf(String readme) {
        int from = readme.indexOf("```java\n");
        int to = readme.indexOf("\n```", from + 1);
        return from < 0 || to < 0 ? "" : readme.substring(from + "```java\n".length(), to);
    }

    private static String asDue(Matcher asked) {
        String name = asked.group(1) == null ? "" : asked.group(1) + "(int) ";
        String call = asked.group(2);
        return name + "due(\"" + call + "\", " + call + ", " + asked.group(3) + "L);";
    }

    /** How many calls answer another number; 1, too, if it does not compile. */
    private static int run(String body) throws IOException, InterruptedException {
        Path home = Files.createTempDirectory("readme");
        try {
            Files.writeString(home.resolve("Example.java"), """
                    public final class Example {
                        private static int wrong;
                        private static long due(String call, long got, long want) {
                            if (got != want) {
                                wrong++;
                                System.out.println("  " + call + " answered " + got + ", README.md says " + want);
                            }
                            return got;
                        }
                        public static void main(String[] args) {
                    """ + body + "System.exit(wrong); } }\n");
            String classes = System.getProperty("java.class.path");
            int compiled = end("javac", "-cp", classes, "-d", home.toString(), home.resolve("Example.java").toString());
            return compiled != 0 ? 1 : end("java", "-cp", classes + File.pathSeparator + home, "Example");
        } finally {
            remove(home);
        }
    }

    private static int end(String... command) throws IOException, InterruptedException {
        return new ProcessBuilder(command).inheritIO().start().waitFor();
    }

    private static void remove(Path home) throws IOException {
        try (Stream<Path> files = Files.list(home)) {
            for (Path file : files.toList()) {
                Files.delete(file);
            }
        }
        Files.delete(home);
    }
}
