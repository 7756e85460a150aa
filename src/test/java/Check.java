import java.util.ArrayList;
import java.util.Arrays;
import java.util.List;

/** What the tests share: comparing answers, and texts put on and read off an object. */
final class Check {
    /** The numbers at which a sum would wrap around. */
    static final int[] ENDS_OF_INT = {
        Integer.MIN_VALUE, Integer.MIN_VALUE + 1, Integer.MIN_VALUE + 23, Integer.MIN_VALUE + 24,
        Integer.MAX_VALUE - 24, Integer.MAX_VALUE - 23, Integer.MAX_VALUE - 1, Integer.MAX_VALUE,
    };

    private static int checks = 0;
    private static int wrong = 0;
    private static final List<Said> SAID = new ArrayList<>();

    /** A sentence of the document, the heading that it stands under, and how many checks came ahead of it. */
    record Said(String heading, String sentence, int checksAhead) {
    }

    interface Call {
        long answer();
    }

    private Check() {
    }

    static void same(String what, Object got, Object want) {
        checks++;
        if (!got.equals(want)) {
            wrong++;
            System.out.println(bySentence() + what + " answered " + got + ", due is " + want);
        }
    }

    /** The checks from here on stand by this sentence of the document. */
    static void says(String heading, String sentence) {
        closeSentence();
        SAID.add(new Said(heading, sentence, checks));
    }

    private static String bySentence() {
        if (SAID.isEmpty()) {
            return "";
        }
        Said latest = SAID.get(SAID.size() - 1);
        return latest.heading() + ", '" + latest.sentence() + "': ";
    }

    private static void closeSentence() {
        if (!SAID.isEmpty() && SAID.get(SAID.size() - 1).checksAhead() == checks) {
            same("checks of this sentence", 0, "one or more");
        }
    }

    static List<Said> allSaid() {
        closeSentence();
        return SAID;
    }

    static void due(String what, long got, long want) {
        same(what, got, want);
    }

    /** A call's answer as a text, "throws.E" if it throws. */
    static String told(Call call) {
        try {
            return Long.toString(call.answer());
        } catch (RuntimeException e) {
            return "throws." + e.getClass().getSimpleName();
        }
    }

    static void noIndex(String what, Call call) {
        same(what, told(call), "throws.IndexOutOfBoundsException");
    }

    static void badArgument(String what, Call call) {
        same(what, told(call), "throws.IllegalArgumentException");
    }

    static void badState(String what, Call call) {
        same(what, told(call), "throws.IllegalStateException");
    }

    /** Up to four signs of a text from a place on, packed as unit() takes them. */
    static int packed(String text, int from) {
        int all = 0;
        for (int i = 0; i < 4 && from + i < text.length(); i++) {
            all |= text.charAt(from + i) << (8 * i);
        }
        return all;
    }

    static void type(RingMatches x, String text) {
        for (int i = 0; i < text.length(); i += 8) {
            x.unit(packed(text, i), packed(text, i + 4));
        }
    }

    static int readText(RingMatches x, String text) {
        type(x, text);
        return x.read();
    }

    static RingMatches with(String... texts) {
        RingMatches x = new RingMatches();
        for (String text : texts) {
            same("read of " + text + " succeeds", readText(x, text) >= 0, true);
        }
        return x;
    }

    static String textOf(RingMatches x, int series) {
        StringBuilder text = new StringBuilder();
        int length = x.written(series, -1);
        for (int i = 0; i < length; i++) {
            text.append((char) x.written(series, i));
        }
        return text.toString();
    }

    /** These numbers, and those near the ends of int. */
    static int[] andEndsOfInt(int... numbers) {
        int[] all = Arrays.copyOf(numbers, numbers.length + ENDS_OF_INT.length);
        System.arraycopy(ENDS_OF_INT, 0, all, numbers.length, ENDS_OF_INT.length);
        return all;
    }

    /** A text of rings 1, 2, 3 and so on. */
    static String rising(int many) {
        StringBuilder text = new StringBuilder("1");
        for (int i = 2; i <= many; i++) {
            text.append(' ').append(i);
        }
        return text.toString();
    }

    /** A text of so many times the same ring. */
    static String rings(int many, String ring) {
        return (ring + " ").repeat(many).trim();
    }

    static void end() {
        System.out.println(checks + " checks, " + wrong + " wrong");
        if (wrong != 0 || checks == 0) {
            System.exit(1);
        }
    }
}
