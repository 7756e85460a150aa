import java.io.IOException;
import java.lang.management.ManagementFactory;
import java.lang.reflect.Constructor;
import java.lang.reflect.Field;
import java.lang.reflect.Member;
import java.lang.reflect.Method;
import java.lang.reflect.Modifier;
import java.nio.file.Files;
import java.nio.file.Path;
import java.util.Arrays;
import java.util.Set;
import java.util.TreeSet;

/** The public face, the rules of LANGUAGE.md that can be seen from outside, and the room that calls take. */
public final class FaceTest {
    private static final String FACE = String.join("\n",
            "NONE",
            "RingMatches()",
            "absent(int, int, int) IllegalArgumentException IndexOutOfBoundsException",
            "agree(int, int) IndexOutOfBoundsException",
            "core(int, int, int) IllegalStateException IndexOutOfBoundsException",
            "count(int) IndexOutOfBoundsException",
            "evened(int, int) IndexOutOfBoundsException",
            "group(int, int, int) IllegalArgumentException IndexOutOfBoundsException",
            "match(int, int, int) IllegalArgumentException IndexOutOfBoundsException",
            "odds(int, int) IndexOutOfBoundsException",
            "overlap(int, int) IndexOutOfBoundsException",
            "read() IllegalStateException",
            "unit(int, int) IllegalArgumentException IllegalStateException",
            "width(int, int) IndexOutOfBoundsException",
            "written(int, int) IndexOutOfBoundsException");

    public static void main(String[] args) throws IOException {
        faceIsTheDocuments();
        namesAreApart();
        sourceKeepsToTheLanguage();
        callsMakeNothing();
        Check.end();
    }

    private static boolean isHidden(Member member) {
        return Modifier.isPrivate(member.getModifiers());
    }

    private static String signature(String name, Class<?>[] takes, Class<?>[] exceptions) {
        StringBuilder text = new StringBuilder(name).append('(');
        for (int i = 0; i < takes.length; i++) {
            text.append(i == 0 ? "" : ", ").append(takes[i].getSimpleName());
        }
        text.append(')');
        Arrays.stream(exceptions).map(Class::getSimpleName).sorted().forEach(e -> text.append(' ').append(e));
        return text.toString();
    }

    private static void faceIsTheDocuments() {
        Set<String> face = new TreeSet<>();
        for (Field field : RingMatches.class.getDeclaredFields()) {
            if (!isHidden(field)) {
                face.add(field.getName());
            }
        }
        for (Constructor<?> made : RingMatches.class.getDeclaredConstructors()) {
            if (!isHidden(made)) {
                face.add(signature("RingMatches", made.getParameterTypes(), made.getExceptionTypes()));
            }
        }
        for (Method method : RingMatches.class.getDeclaredMethods()) {
            if (!isHidden(method)) {
                face.add(signature(method.getName(), method.getParameterTypes(), method.getExceptionTypes()));
                Check.same(method + " is public", Modifier.isPublic(method.getModifiers()), true);
                Class<?> answer = method.getName().equals("odds") ? long.class : int.class;
                Check.same(method + " answers", method.getReturnType(), answer);
            }
        }
        Check.same("the face", String.join("\n", face), FACE);
        Check.same("the class is final", Modifier.isFinal(RingMatches.class.getModifiers()), true);
    }

    private static void namesAreApart() {
        Set<String> open = new TreeSet<>();
        for (Method method : RingMatches.class.getMethods()) {
            open.add(method.getName());
        }
        for (Method method : RingMatches.class.getDeclaredMethods()) {
            Check.same(method + " bears no public name", isHidden(method) && open.contains(method.getName()), false);
        }
        for (Class<?> inside : RingMatches.class.getDeclaredClasses()) {
            Check.same(inside + " is static", Modifier.isStatic(inside.getModifiers()), true);
            Check.same(inside + " is hidden", Modifier.isPublic(inside.getModifiers()), false);
        }
    }

    private static void sourceKeepsToTheLanguage() throws IOException {
        String source = Files.readString(Path.of(System.getProperty("ringmatches.source")));
        String[] outside = {
            "import ", "package ", "catch", "finally", "->", "::", "synchronized", "assert ", "Exact(",
            "static {", "double", "float", "System.", "Random", "Thread",
        };
        for (String word : outside) {
            Check.same("the source has " + word, source.contains(word), false);
        }
    }

    private static long bytesMade() {
        com.sun.management.ThreadMXBean threads =
                (com.sun.management.ThreadMXBean) ManagementFactory.getThreadMXBean();
        return threads.getThreadAllocatedBytes(Thread.currentThread().getId());
    }

    private static void callsMakeNothing() {
        RingMatches x = new RingMatches();
        for (int i = 0; i < 7; i++) {
            Check.readText(x, "1 2 3 - " + Check.rings(18, "" + (i + 7)) + " 4");
        }
        long sum = everyCall(x);
        long before = bytesMade();
        for (int i = 0; i < 30; i++) {
            sum += everyCall(x);
        }
        long made = bytesMade() - before;
        Check.same("bytes that 360 calls make, " + made + ", are few (" + sum + ")", made < 4096, true);
        before = bytesMade();
        x = new RingMatches();
        made = bytesMade() - before;
        Check.same("bytes that an object takes, " + made + ", are few (" + x.count(1) + ")", made < 16384, true);
    }

    private static long everyCall(RingMatches x) {
        long sum = x.match(0, 1, 3);
        sum += x.overlap(0, 2) + x.agree(0, 0) + x.odds(0, 1);
        sum += x.absent(0, 1, 0) + x.core(0, 1, 5) + x.group(6, 24, 100);
        sum += x.width(0, 2) + x.written(0, 20) + x.evened(0, 5) + x.count(3) + x.unit(0, 0);
        return sum;
    }
}
