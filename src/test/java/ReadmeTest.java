import java.io.File;
import java.io.IOException;
import java.lang.reflect.Method;
import java.lang.reflect.Modifier;
import java.net.URL;
import java.net.URLClassLoader;
import java.nio.file.Files;
import java.nio.file.Path;
import java.util.ArrayList;
import java.util.Arrays;
import java.util.List;
import java.util.TreeSet;
import java.util.regex.Matcher;
import java.util.regex.Pattern;
import java.util.stream.Stream;
import javax.tools.ToolProvider;

/** README.md: its example answers what stands behind each call, and it leaves out no call, exception or test. */
public final class ReadmeTest {
    private static final Pattern BLOCK = Pattern.compile("(?s)```java\n(.*?)```");
    private static final Pattern ASKED = Pattern.compile("(int (\\w+) = )?(\\w+.*\\));\\s+// (-?\\d+|throws \\w+): .*");
    private static final Pattern EXCEPTION = Pattern.compile("\\w+Exception");

    private static final List<String> CALLS = new ArrayList<>();
    private static final List<String> WANTED = new ArrayList<>();

    public static void main(String[] args) throws Exception {
        String readme = Files.readString(Path.of(System.getProperty("ringmatches.readme")));
        Matcher blocks = BLOCK.matcher(readme);
        Check.same("README.md has the helpers", blocks.find(), true);
        String helpers = blocks.group(1);
        Check.same("README.md has the example", blocks.find(), true);
        compareAnswers(answersOf(program(helpers, blocks.group(1))));
        everyCallOfTheFace(readme);
        everyTest(readme);
        Check.end();
    }

    /** The example as a class that notes each answer. */
    private static String program(String helpers, String example) {
        StringBuilder body = new StringBuilder();
        for (String line : example.split("\n")) {
            Matcher asked = ASKED.matcher(line);
            boolean isAsked = asked.matches();
            Check.same("'" + line + "' tells its answer", isAsked, !line.isEmpty() && !line.contains("new RingMatches()"));
            if (!isAsked) {
                body.append(line).append('\n');
                continue;
            }
            CALLS.add(asked.group(3));
            WANTED.add(asked.group(4));
            String call = asked.group(3);
            if (asked.group(2) != null) {
                body.append(asked.group(1)).append(call).append(";\n");
                call = asked.group(2);
            }
            body.append("try { told.add(\"\" + ").append(call).append("); } catch (RuntimeException e) {\n");
            body.append("told.add(\"throws \" + e.getClass().getSimpleName()); }\n");
        }
        return "import java.util.*;\npublic final class ReadmeExample {\n" + helpers
                + "public static List<String> answers() {\nList<String> told = new ArrayList<>();\n"
                + body + "return told;\n}\n}\n";
    }

    private static List<?> answersOf(String program) throws Exception {
        Path room = Files.createTempDirectory("readme");
        try {
            Path file = room.resolve("ReadmeExample.java");
            Files.writeString(file, program);
            int refused = ToolProvider.getSystemJavaCompiler().run(null, null, null,
                    "-cp", System.getProperty("java.class.path"), "-d", room.toString(), file.toString());
            Check.same("the example compiles", refused, 0);
            try (URLClassLoader loader = new URLClassLoader(new URL[] {room.toUri().toURL()})) {
                return (List<?>) loader.loadClass("ReadmeExample").getMethod("answers").invoke(null);
            }
        } finally {
            remove(room);
        }
    }

    private static void remove(Path room) {
        for (File file : room.toFile().listFiles()) {
            file.delete();
        }
        room.toFile().delete();
    }

    private static void compareAnswers(List<?> answers) {
        Check.same("answers of the example", answers.size(), CALLS.size());
        Check.same("the example asks for much", CALLS.size() > 20, true);
        for (int i = 0; i < answers.size(); i++) {
            Check.same("README.md: " + CALLS.get(i), answers.get(i), WANTED.get(i));
        }
    }

    private static void everyCallOfTheFace(String readme) {
        for (Method method : RingMatches.class.getDeclaredMethods()) {
            if (Modifier.isPublic(method.getModifiers())) {
                TreeSet<String> told = new TreeSet<>();
                EXCEPTION.matcher(rowOf(readme, method.getName())).results().forEach(e -> told.add(e.group()));
                TreeSet<String> thrown = new TreeSet<>();
                Arrays.stream(method.getExceptionTypes()).forEach(e -> thrown.add(e.getSimpleName()));
                Check.same("exceptions in README.md's row of " + method.getName(), told, thrown);
                boolean used = readme.contains("rings." + method.getName() + "(");
                Check.same("README.md uses " + method.getName(), used, true);
            }
        }
    }

    private static String rowOf(String readme, String name) {
        for (String line : readme.split("\n")) {
            if (line.startsWith("| `" + name + "(")) {
                return line;
            }
        }
        return "";
    }

    private static void everyTest(String readme) throws IOException {
        Check.same("README.md says how tests are run", readme.contains("`.ci/run`"), true);
        try (Stream<Path> files = Files.list(Path.of(System.getProperty("ringmatches.tests")))) {
            files.map(file -> file.getFileName().toString().replace(".java", "")).forEach(name ->
                    Check.same("README.md names " + name, readme.contains("`" + name), true));
        }
    }
}
