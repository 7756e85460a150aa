import java.io.IOException;
import java.lang.management.ManagementFactory;
import java.lang.reflect.Constructor;
import java.lang.reflect.Executable;
import java.lang.reflect.Field;
import java.lang.reflect.Member;
import java.lang.reflect.Method;
import java.lang.reflect.Modifier;
import java.nio.file.Files;
import java.nio.file.Path;
import java.util.Arrays;
import java.util.Set;
import java.util.TreeSet;
import java.util.regex.Matcher;
import java.util.regex.Pattern;
import java.util.stream.Collectors;

/** The public face, the rules of LANGUAGE.md that can be seen from outside, and the room that calls take. */
public final class FaceTest {
    private static final Pattern FACE = Pattern.compile("(?s)```java\\s*(.*?) \\{(.*?)\\}\\s*```");
    private static final Pattern PARAMETER = Pattern.compile("(int|long) \\w+(?=[,)])");

    public static void main(String[] args) throws IOException, IllegalAccessException {
        faceIsTheDocuments();
        namesAreApart();
        sourceKeepsToTheLanguage();
        callsMakeNothing();
        Check.end();
    }

    private static boolean isHidden(Member member) {
        return Modifier.isPrivate(member.getModifiers());
    }

    private static String written(Class<?>... types) {
        return Arrays.stream(types).map(Class::getSimpleName).collect(Collectors.joining(", "));
    }

    private static String written(Executable of, String name) {
        String thrown = written(of.getExceptionTypes());
        return Modifier.toString(of.getModifiers()) + " " + name + "(" + written(of.getParameterTypes()) + ")"
                + (thrown.isEmpty() ? "" : " throws " + thrown);
    }

    private static void faceIsTheDocuments() throws IOException, IllegalAccessException {
        Matcher document = FACE.matcher(Files.readString(Path.of(System.getProperty("ringmatches.document"))));
        Check.same("the document has a face", document.find(), true);
        Set<String> face = shown();
        Check.same("members of the face", face.size(), 15);
        Check.same("the face", String.join("\n", face), String.join("\n", promised(document.group(2))));
        String itself = Modifier.toString(RingMatches.class.getModifiers()) + " class RingMatches";
        Check.same("the class", itself, document.group(1));
    }

    /** Compiled classes do not tell their parameters' names, so these are left out. */
    private static Set<String> promised(String members) {
        Set<String> face = new TreeSet<>();
        for (String line : members.trim().split(";\\s*")) {
            face.add(PARAMETER.matcher(line).replaceAll("$1"));
        }
        return face;
    }

    private static Set<String> shown() throws IllegalAccessException {
        Set<String> face = new TreeSet<>();
        for (Field field : RingMatches.class.getDeclaredFields()) {
            if (!isHidden(field)) {
                face.add(Modifier.toString(field.getModifiers()) + " " + written(field.getType()) + " "
                        + field.getName() + " = " + field.get(null));
            }
        }
        for (Constructor<?> made : RingMatches.class.getDeclaredConstructors()) {
            if (!isHidden(made)) {
                face.add(written(made, "RingMatches"));
            }
        }
        for (Method method : RingMatches.class.getDeclaredMethods()) {
            if (!isHidden(method)) {
                face.add(written(method, written(method.getReturnType()) + " " + method.getName()));
            }
        }
        return face;
    }

    private static void namesAreApart() {
        Set<String> open = new TreeSet<>();
        for (Method method : RingMatches.class.getMethods()) {
            open.add(method.getName());
        }
        for (Method method : RingMatches.class.getDeclaredMethods()) {
            Check.same(method + " bears no public name", isHidden(method) && open.contains(method.getName()), false);
        }
        for (Class<?> inside : RingMatches.class.getDeclaredClasses()) {
            Check.same(inside + " is static", Modifier.isStatic(inside.getModifiers()), true);
            Check.same(inside + " is hidden", Modifier.isPublic(inside.getModifiers()), false);
        }
    }

    private static void sourceKeepsToTheLanguage() throws IOException {
        String source = Files.readString(Path.of(System.getProperty("ringmatches.source")));
        String[] outside = {
            "import ", "package ", "catch", "finally", "->", "::", "synchronized", "assert ", "Exact(",
            "static {", "double", "float", "System.", "Random", "Thread",
        };
        for (String word : outside) {
            Check.same("the source has " + word, source.contains(word), false);
        }
    }

    private static long bytesMade() {
        com.sun.management.ThreadMXBean threads =
                (com.sun.management.ThreadMXBean) ManagementFactory.getThreadMXBean();
        return threads.getThreadAllocatedBytes(Thread.currentThread().getId());
    }

    private static void callsMakeNothing() {
        RingMatches x = new RingMatches();
        for (int i = 0; i < 7; i++) {
            Check.readText(x, "1 2 3 - " + Check.rings(18, "" + (i + 7)) + " 4");
        }
        long sum = everyCall(x);
        long before = bytesMade();
        for (int i = 0; i < 30; i++) {
            sum += everyCall(x);
        }
        long made = bytesMade() - before;
        Check.same("bytes that 360 calls make, " + made + ", are few (" + sum + ")", made < 4096, true);
        before = bytesMade();
        x = new RingMatches();
        made = bytesMade() - before;
        Check.same("bytes that an object takes, " + made + ", are few (" + x.count(1) + ")", made < 16384, true);
    }

    private static long everyCall(RingMatches x) {
        long sum = x.match(0, 1, 3);
        sum += x.overlap(0, 2) + x.agree(0, 0) + x.odds(0, 1);
        sum += x.absent(0, 1, 0) + x.core(0, 1, 5) + x.group(6, 24, 100);
        sum += x.width(0, 2) + x.written(0, 20) + x.evened(0, 5) + x.count(3) + x.unit(0, 0);
        return sum;
    }
}
