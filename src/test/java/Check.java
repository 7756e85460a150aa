/** What the tests share: comparing answers, and texts put on and read off an object. */
final class Check {
    private static int checks = 0;
    private static int wrong = 0;

    interface Call {
        long answer();
    }

    private Check() {
    }

    static void same(String what, Object got, Object want) {
        checks++;
        if (!got.equals(want)) {
            wrong++;
            System.out.println(what + " answered " + got + ", due is " + want);
        }
    }

    static void due(String what, long got, long want) {
        same(what, got, want);
    }

    /** A call's answer as a text, "throws.E" if it throws. */
    static String told(Call call) {
        try {
            return Long.toString(call.answer());
        } catch (RuntimeException e) {
            return "throws." + e.getClass().getSimpleName();
        }
    }

    static void noIndex(String what, Call call) {
        same(what, told(call), "throws.IndexOutOfBoundsException");
    }

    static void badArgument(String what, Call call) {
        same(what, told(call), "throws.IllegalArgumentException");
    }

    static void badState(String what, Call call) {
        same(what, told(call), "throws.IllegalStateException");
    }

    /** Up to four signs of a text from a place on, packed as unit() takes them. */
    static int packed(String text, int from) {
        int all = 0;
        for (int i = 0; i < 4 && from + i < text.length(); i++) {
            all |= text.charAt(from + i) << (8 * i);
        }
        return all;
    }

    static void type(RingMatches x, String text) {
        for (int i = 0; i < text.length(); i += 8) {
            x.unit(packed(text, i), packed(text, i + 4));
        }
    }

    static int readText(RingMatches x, String text) {
        type(x, text);
        return x.read();
    }

    static RingMatches with(String... texts) {
        RingMatches x = new RingMatches();
        for (String text : texts) {
            same("read of " + text + " succeeds", readText(x, text) >= 0, true);
        }
        return x;
    }

    static String textOf(RingMatches x, int series) {
        StringBuilder text = new StringBuilder();
        for (int i = 0; i < x.written(series, -1); i++) {
            text.append((char) x.written(series, i));
        }
        return text.toString();
    }

    /** A text of so many times the same ring. */
    static String rings(int many, String ring) {
        return (ring + " ").repeat(many).trim();
    }

    static void end() {
        System.out.println(checks + " checks, " + wrong + " wrong");
        if (wrong != 0 || checks == 0) {
            System.exit(1);
        }
    }
}
