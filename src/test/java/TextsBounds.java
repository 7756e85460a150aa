/** Promises 1 to 5 and 14, sentence by sentence, at the bounds that they name. */
final class TextsBounds {
    private static final String TWENTY_FOUR = Check.rings(24, "1");
    private static final String LONGEST = Check.rings(24, "500");

    private TextsBounds() {
    }

    static void check() {
        newObject();
        unit();
        read();
        width();
        written();
        count();
    }

    private static void newObject() {
        Check.says("Promise 1", "No series, no tries; an empty pad.");
        RingMatches x = new RingMatches();
        Check.due("signs", x.count(0), 0);
        Check.due("series", x.count(1), 0);
        Check.due("overlaps", x.count(2), 0);
        Check.due("tries", x.count(3), 0);
        for (int none : Check.andEndsOfInt(-1, 0, 1, 7, 8)) {
            Check.noIndex("width(" + none + ", -1)", () -> x.width(none, -1));
            Check.noIndex("written(" + none + ", -1)", () -> x.written(none, -1));
            Check.noIndex("evened(" + none + ", 0)", () -> x.evened(none, 0));
            Check.noIndex("overlap(" + none + ", 0)", () -> x.overlap(none, 0));
            Check.noIndex("agree(" + none + ", 0)", () -> x.agree(none, 0));
            Check.noIndex("odds(" + none + ", 0)", () -> x.odds(none, 0));
            Check.noIndex("match(" + none + ", 0, 3)", () -> x.match(none, 0, 3));
            Check.noIndex("absent(" + none + ", 0, 0)", () -> x.absent(none, 0, 0));
            Check.noIndex("core(" + none + ", 0, 0)", () -> x.core(none, 0, 0));
            Check.noIndex("group(" + none + ", 3, 0)", () -> x.group(none, 3, 0));
        }
        Check.due("read of an empty pad", x.read(), -1);
        Check.due("the first series", Check.readText(x, "1"), 0);
        RingMatches other = new RingMatches();
        Check.due("another new object has none of it", other.count(1), 0);
    }

    private static void unit() {
        Check.says("Promise 2", "Signs come behind the pad: of a, then of b, the lowest eight bits first; "
                + "0 is none: how many there are.");
        RingMatches x = new RingMatches();
        Check.due("none on an empty pad", x.unit(0, 0), 0);
        Check.due("eight", x.unit('1' | '2' << 8 | '3' << 16 | ' ' << 24, '4' | '5' << 8 | '6' << 16 | ' ' << 24), 8);
        Check.due("behind them", x.unit('7' << 24, '8' << 24), 10);
        Check.due("0 between", x.unit('9' << 16, ' ' << 8 | '-' << 24), 13);
        Check.due("none", x.unit(0, 0), 13);
        // 789 is no width: its third digit is the first sign that does not fit, at place 10.
        Check.due("read()", x.read(), -11);
        x.unit('1' << 24, '2' << 16);
        x.unit(0, '3' << 8);
        x.unit(' ' << 16, 0);
        x.unit('4', ' ' << 24);
        x.unit('-' << 8, 0);
        Check.due("read()", x.read(), 0);
        Check.same("its text", Check.textOf(x, 0), "123 4 -");
        Check.due("the least signs", x.unit(0x20202020, 0x20202020), 8);
        Check.due("the greatest signs", x.unit(0x7e7e7e7e, 0x7e7e7e7e), 16);
        Check.says("Promise 2", "IllegalArgumentException: one that is not 32 .. 126.");
        int[] bad = Check.andEndsOfInt(
                -1, 1, 31, 127, 0x1f000000, 0x7f000000, 0x80000000, 0x00800000, 0x20201f20, 0x7e7f7e7e);
        for (int packed : bad) {
            Check.badArgument("unit(" + packed + ", 0)", () -> x.unit(packed, 0));
            Check.badArgument("unit(0, " + packed + ")", () -> x.unit(0, packed));
            Check.badArgument("unit('1', " + packed + ")", () -> x.unit('1', packed));
        }
        Check.due("signs stay", x.count(0), 16);
        Check.says("Promise 2", "IllegalStateException: there would be more than 100.");
        Check.type(x, "x".repeat(76));
        Check.due("92 and 8", x.unit(0x20202020, 0x7e7e7e7e), 100);
        Check.due("100 and none", x.unit(0, 0), 100);
        for (int place = 0; place < 4; place++) {
            int one = 32 << 8 * place;
            Check.badState("100 and one of a", () -> x.unit(one, 0));
            Check.badState("100 and one of b", () -> x.unit(0, one));
        }
        Check.badState("100 and eight", () -> x.unit(0x20202020, 0x7e7e7e7e));
        Check.badArgument("100 and one that is no sign", () -> x.unit(0x20202020, 31));
        Check.badArgument("100 and none but one that is no sign", () -> x.unit(127, 0));
        Check.due("signs stay", x.count(0), 100);
    }

    private static void read() {
        Check.says("Promise 3", "The pad becomes a series, and is empty: its number;");
        RingMatches x = new RingMatches();
        String[] texts = {"1", "-", "500", LONGEST, TWENTY_FOUR, Check.rings(24, "-"), "1 -", "- 1"};
        for (int i = 0; i < texts.length; i++) {
            Check.due("read of " + texts[i], Check.readText(x, texts[i]), i);
            Check.due("signs then", x.count(0), 0);
            Check.due("series then", x.count(1), i + 1);
        }
        for (int i = 0; i < texts.length; i++) {
            Check.same("text " + i, Check.textOf(x, i), texts[i]);
        }
        firstWrongSign();
        endsTooEarly();
        Check.says("Promise 3", ": it is empty then, too.");
        RingMatches y = new RingMatches();
        Check.type(y, "1".repeat(100));
        Check.due("read of a full pad", y.read(), -4);
        Check.due("signs then", y.count(0), 0);
        Check.due("series then", y.count(1), 0);
        Check.due("read again", y.read(), -1);
        Check.due("read of what comes then", Check.readText(y, "12"), 0);
        Check.same("its text", Check.textOf(y, 0), "12");
        Check.due("read that fails late", Check.readText(y, "1 2 3 4 ~"), -9);
        Check.due("a core behind it", y.core(0, 0, 0), 1);
        Check.same("its text has none of it", Check.textOf(y, 1), "12");
        Check.due("read that fails later", Check.readText(y, "1 2 3 4 5 6 "), -13);
        Check.due("a text behind it", Check.readText(y, "7"), 2);
        Check.same("its text has none of it", Check.textOf(y, 2), "7");
        Check.says("Promise 3", "IllegalStateException: there are eight.");
        Check.badState("an empty pad", x::read);
        Check.type(x, "1 2");
        Check.badState("a text", x::read);
        Check.due("signs stay", x.count(0), 3);
        Check.type(x, " 0");
        Check.badState("no text", x::read);
        Check.due("signs stay", x.count(0), 5);
        Check.type(x, "~".repeat(95));
        Check.badState("a full pad", x::read);
        Check.due("signs stay", x.count(0), 100);
        Check.due("series stay", x.count(1), 8);
    }

    /** Each sign behind signs that could begin a text. */
    private static void firstWrongSign() {
        Check.says("Promise 3",
                "-1 minus the place of the first sign that no text could have there behind those ahead of it");
        String digits = "0123456789";
        String start = "-123456789";
        String[][] behind = {
            {"", start}, {"-", " "}, {"1", " " + digits}, {"9", " " + digits}, {"5", " " + digits}, {"6", " " + digits},
            {"10", " " + digits}, {"49", " " + digits}, {"50", " 0"}, {"51", " "}, {"60", " "}, {"99", " "},
            {"100", " "}, {"499", " "}, {"500", " "}, {"1 ", start}, {"- ", start}, {"500 ", start}, {"1 -", " "},
            {"1 50", " 0"}, {TWENTY_FOUR, digits}, {Check.rings(23, "1"), " " + digits},
            {Check.rings(23, "1") + " ", start}, {Check.rings(23, "1") + " 50", "0"},
            {Check.rings(24, "-"), ""}, {Check.rings(23, "-"), " "},
            {LONGEST, ""}, {Check.rings(23, "500") + " 50", "0"}, {Check.rings(23, "500") + " 51", ""},
        };
        for (String[] row : behind) {
            for (char sign = 32; sign <= 126; sign++) {
                int place = row[0].length();
                boolean fits = row[1].indexOf(sign) >= 0;
                int got = Check.readText(new RingMatches(), row[0] + sign);
                Check.same("sign '" + sign + "' behind '" + row[0] + "' is told", got == -1 - place, !fits);
                // What stands behind the first wrong sign is of no account.
                got = Check.readText(new RingMatches(), row[0] + sign + "~");
                Check.due("sign '" + sign + "~' behind '" + row[0] + "'", got, fits ? -2 - place : -1 - place);
            }
        }
        RingMatches x = new RingMatches();
        Check.type(x, "~".repeat(100));
        Check.due("the first of 100", x.read(), -1);
        Check.type(x, LONGEST + "0    ");
        Check.due("place 95 of 100", x.read(), -96);
    }

    private static void endsTooEarly() {
        Check.says("Promise 3", "(its length, if it ends too early)");
        RingMatches x = new RingMatches();
        Check.due("an empty pad", x.read(), -1);
        String[] early = {"1 ", "- ", "500 ", "1 2 ", Check.rings(23, "1") + " ", Check.rings(23, "500") + " "};
        for (String text : early) {
            Check.due("read of '" + text + "'", Check.readText(x, text), -1 - text.length());
            Check.due("signs then", x.count(0), 0);
            Check.due("series then", x.count(1), 0);
        }
    }

    private static void width() {
        Check.says("Promise 4", "A ring's width, NONE if it is missing;");
        RingMatches x = Check.with("1 500 -", "-", LONGEST, Check.rings(23, "1") + " -");
        Check.due("the least", x.width(0, 0), 1);
        Check.due("the greatest", x.width(0, 1), 500);
        Check.due("a missing one", x.width(0, 2), RingMatches.NONE);
        Check.due("the only one", x.width(1, 0), RingMatches.NONE);
        Check.due("the last of 24", x.width(2, 23), 500);
        Check.due("the last of 24, missing", x.width(3, 23), RingMatches.NONE);
        Check.due("NONE", RingMatches.NONE, -1);
        Check.says("Promise 4", "k = -1: how many rings a series has.");
        int[] many = {3, 1, 24, 24};
        for (int i = 0; i < many.length; i++) {
            Check.due("rings of " + i, x.width(i, -1), many[i]);
        }
        Check.says("Promise 4", "IndexOutOfBoundsException.");
        for (int i = 0; i < many.length; i++) {
            int series = i;
            for (int none : Check.andEndsOfInt(-3, -2, many[i], many[i] + 1, 25)) {
                Check.noIndex("width(" + i + ", " + none + ")", () -> x.width(series, none));
            }
        }
        for (int none : Check.andEndsOfInt(-2, -1, 4, 7, 8)) {
            Check.noIndex("width(" + none + ", 0)", () -> x.width(none, 0));
            Check.noIndex("width(" + none + ", -1)", () -> x.width(none, -1));
            Check.noIndex("width(" + none + ", 24)", () -> x.width(none, 24));
        }
    }

    private static void written() {
        Check.says("Promise 5", "Sign i of a series as a text;");
        String[] texts = {"9 10 99 100 - 205", "-", LONGEST, "7", "- -"};
        RingMatches x = Check.with(texts);
        for (int i = 0; i < texts.length; i++) {
            int last = texts[i].length() - 1;
            Check.due("first sign of " + i, x.written(i, 0), texts[i].charAt(0));
            Check.due("last sign of " + i, x.written(i, last), texts[i].charAt(last));
            Check.same("all signs of " + i, Check.textOf(x, i), texts[i]);
        }
        Check.says("Promise 5", "i = -1: how many there are.");
        for (int i = 0; i < texts.length; i++) {
            Check.due("signs of " + i, x.written(i, -1), texts[i].length());
        }
        Check.due("signs of the longest", x.written(2, -1), 95);
        Check.says("Promise 5", "IndexOutOfBoundsException.");
        for (int i = 0; i < texts.length; i++) {
            int series = i;
            int length = texts[i].length();
            for (int none : Check.andEndsOfInt(-3, -2, length, length + 1, 100)) {
                Check.noIndex("written(" + i + ", " + none + ")", () -> x.written(series, none));
            }
        }
        for (int none : Check.andEndsOfInt(-2, -1, 5, 7, 8)) {
            Check.noIndex("written(" + none + ", 0)", () -> x.written(none, 0));
            Check.noIndex("written(" + none + ", -1)", () -> x.written(none, -1));
        }
    }

    private static void count() {
        Check.says("Promise 14", "0 signs of the pad, 1 series, 2 overlaps of the latest list, 3 tries.");
        RingMatches x = Check.with(TWENTY_FOUR, "-");
        counts(x, 0, 2, 0, 0);
        Check.type(x, "~".repeat(100));
        counts(x, 100, 2, 0, 0);
        x.match(0, 0, 3);
        counts(x, 100, 2, 43, 47);
        x.read();
        counts(x, 0, 2, 43, 47);
        for (int i = 0; i < 5; i++) {
            x.core(0, 0, 0);
        }
        counts(x, 0, 7, 43, 47);
        x.match(0, 0, 24);
        counts(x, 0, 7, 1, 94);
        x.match(1, 1, 3);
        counts(x, 0, 7, 0, 95);
        Check.readText(x, "1");
        counts(x, 0, 8, 0, 95);
        Check.says("Promise 14", "IndexOutOfBoundsException: none of these.");
        for (int none : Check.andEndsOfInt(-2, -1, 4, 5)) {
            Check.noIndex("count(" + none + ")", () -> x.count(none));
        }
    }

    private static void counts(RingMatches x, int... want) {
        for (int what = 0; what < want.length; what++) {
            Check.due("count(" + what + ")", x.count(what), want[what]);
        }
    }
}
