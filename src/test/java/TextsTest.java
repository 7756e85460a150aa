/** Promises 1 to 5 and 14: the pad, texts read and written back, what is counted. */
public final class TextsTest {
    public static void main(String[] args) {
        newObject();
        unitPacksSigns();
        unitRefuses();
        readAnswers();
        readRefuses();
        widths();
        writtenTexts();
        counts();
        Check.end();
    }

    private static void newObject() {
        RingMatches x = new RingMatches();
        for (int what = 0; what < 4; what++) {
            Check.due("new: count(" + what + ")", x.count(what), 0);
        }
        Check.noIndex("new: width(0, -1)", () -> x.width(0, -1));
        Check.noIndex("new: overlap(0, 0)", () -> x.overlap(0, 0));
        Check.noIndex("new: agree(0, 0)", () -> x.agree(0, 0));
        Check.noIndex("new: odds(0, 0)", () -> x.odds(0, 0));
        Check.noIndex("new: match(0, 0, 3)", () -> x.match(0, 0, 3));
        Check.noIndex("new: group(0, 3, 0)", () -> x.group(0, 3, 0));
        Check.due("new: read()", x.read(), -1);
        Check.due("NONE", RingMatches.NONE, -1);
    }

    private static void unitPacksSigns() {
        RingMatches x = new RingMatches();
        Check.due("unit of 12 34", x.unit('1' | '2' << 8 | ' ' << 16 | '3' << 24, '4'), 5);
        Check.due("count(0)", x.count(0), 5);
        Check.due("read()", x.read(), 0);
        Check.same("text 0", Check.textOf(x, 0), "12 34");
        Check.due("unit with 0 between", x.unit('2' | '1' << 24, '3' << 16), 3);
        Check.due("read()", x.read(), 1);
        Check.same("text 1", Check.textOf(x, 1), "213");
        Check.due("unit(0, 0)", x.unit(0, 0), 0);
        Check.due("b alone", x.unit(0, '-'), 1);
        Check.due("behind it", x.unit(' ', '7'), 3);
        Check.due("read()", x.read(), 2);
        Check.same("text 2", Check.textOf(x, 2), "- 7");
        Check.due("32 and 126", x.unit(32, 126 << 24), 2);
    }

    private static void unitRefuses() {
        RingMatches x = Check.with();
        x.unit('4', '5');
        int[] bad = {1, 10, 31, 127, 128, 200, 255};
        for (int sign : bad) {
            for (int place = 0; place < 4; place++) {
                int packed = sign << (8 * place);
                Check.badArgument("unit(" + packed + ", 0)", () -> x.unit(packed, 0));
                Check.badArgument("unit(6, " + packed + ")", () -> x.unit('6', packed));
            }
        }
        Check.due("nothing changed", x.count(0), 2);
        Check.type(x, "x".repeat(95));
        Check.due("97 signs", x.count(0), 97);
        Check.badState("four more", () -> x.unit('a' | 'b' << 8, 'c' | 'd' << 8));
        Check.due("nothing changed at 97", x.count(0), 97);
        Check.due("three more", x.unit('a' | 'b' << 16, 'c' << 8), 100);
        Check.due("none more", x.unit(0, 0), 100);
        Check.badState("one more", () -> x.unit(0, 'a'));
        Check.badArgument("a bad sign on a full pad", () -> x.unit('a', 127));
        Check.due("nothing changed at 100", x.count(0), 100);
        Check.due("read() of 45xxx..", x.read(), -3);
        Check.due("empty then", x.count(0), 0);
    }

    private static void readAnswers() {
        Object[][] wrong = {
            {"", -1}, {"0", -1}, {"05", -1}, {" 5", -1}, {" ", -1}, {"+5", -1}, {"~", -1}, {"/", -1}, {":", -1},
            {"5 ", -3}, {"- ", -3}, {"5  6", -3}, {"5 0", -3}, {"5 06", -3}, {"501", -3}, {"510", -3}, {"600", -3},
            {"5000", -4}, {"1000", -4}, {"499 5001", -8}, {"--", -2}, {"-5", -2}, {"5-", -2}, {"-0", -2},
            {"5a", -2}, {"5,6", -2}, {"5 a", -3}, {"5 500 ", -7}, {"5 - 6 -7", -8}, {"5.5", -2},
            {Check.rings(24, "1") + " ", -48}, {Check.rings(24, "1") + " 1", -48}, {Check.rings(24, "-") + "-", -48},
            {Check.rings(24, "500") + " ", -96}, {Check.rings(24, "500") + "0", -96},
            {Check.rings(23, "1") + " ", -47}, {Check.rings(23, "500") + " 501", -95},
            {Check.rings(24, "500") + "     ", -96},
        };
        RingMatches x = new RingMatches();
        for (Object[] row : wrong) {
            Check.same("read of '" + row[0] + "'", Check.readText(x, (String) row[0]), row[1]);
            Check.due("the pad behind '" + row[0] + "'", x.count(0), 0);
            Check.due("series behind '" + row[0] + "'", x.count(1), 0);
        }
        String[] right = {
            "5", "-", "500", "499", "60 9", "- - 1", Check.rings(24, "500"), Check.rings(23, "-") + " 10",
        };
        for (int i = 0; i < right.length; i++) {
            Check.due("read of '" + right[i] + "'", Check.readText(x, right[i]), i);
            Check.due("the pad behind '" + right[i] + "'", x.count(0), 0);
            Check.same("text of '" + right[i] + "'", Check.textOf(x, i), right[i]);
        }
    }

    private static void readRefuses() {
        RingMatches x = Check.with("1", "2", "3", "4", "5", "6", "7", "8");
        Check.badState("read() of an empty pad with eight", x::read);
        Check.type(x, "9 1");
        Check.badState("read() with eight", x::read);
        Check.due("the pad stays", x.count(0), 3);
        Check.type(x, " x");
        Check.badState("read() of no text with eight", x::read);
        Check.due("the pad stays again", x.count(0), 5);
        Check.due("eight series", x.count(1), 8);
        Check.due("the last one", x.width(7, 0), 8);
    }

    private static void widths() {
        RingMatches x = Check.with("1 - 500 10", "-");
        Check.due("width(0, -1)", x.width(0, -1), 4);
        Check.due("width(0, 0)", x.width(0, 0), 1);
        Check.due("width(0, 1)", x.width(0, 1), -1);
        Check.due("width(0, 2)", x.width(0, 2), 500);
        Check.due("width(0, 3)", x.width(0, 3), 10);
        Check.due("width(1, -1)", x.width(1, -1), 1);
        Check.due("width(1, 0)", x.width(1, 0), -1);
        int[] noRing = {-2, 4, 24, Integer.MIN_VALUE, Integer.MAX_VALUE};
        for (int k : noRing) {
            Check.noIndex("width(0, " + k + ")", () -> x.width(0, k));
        }
        int[] noSeries = {-1, 2, 7, 8, Integer.MIN_VALUE, Integer.MAX_VALUE};
        for (int series : noSeries) {
            Check.noIndex("width(" + series + ", -1)", () -> x.width(series, -1));
            Check.noIndex("written(" + series + ", -1)", () -> x.written(series, -1));
            Check.noIndex("evened(" + series + ", 0)", () -> x.evened(series, 0));
        }
        // A text that failed leaves no series behind it.
        Check.due("a text that fails late", Check.readText(x, "1 2 3 4 x"), -9);
        Check.noIndex("width(2, 0)", () -> x.width(2, 0));
    }

    private static void writtenTexts() {
        RingMatches x = Check.with("9 10 99 100 - 205", "-");
        Check.due("written(0, -1)", x.written(0, -1), 17);
        Check.due("written(0, 0)", x.written(0, 0), '9');
        Check.due("written(0, 1)", x.written(0, 1), 32);
        Check.due("written(0, 12)", x.written(0, 12), '-');
        Check.due("written(0, 15)", x.written(0, 15), '0');
        Check.due("written(0, 16)", x.written(0, 16), '5');
        Check.due("written(1, -1)", x.written(1, -1), 1);
        Check.due("written(1, 0)", x.written(1, 0), '-');
        int[] noSign = {-2, 17, 95, Integer.MIN_VALUE, Integer.MAX_VALUE};
        for (int i : noSign) {
            Check.noIndex("written(0, " + i + ")", () -> x.written(0, i));
        }
        Check.noIndex("written(1, 1)", () -> x.written(1, 1));
    }

    private static void counts() {
        RingMatches x = Check.with("1 2 3", "1 2 3 4");
        x.unit('1', 0);
        x.match(0, 1, 3);
        Check.due("signs", x.count(0), 1);
        Check.due("series", x.count(1), 2);
        Check.due("overlaps", x.count(2), 2);
        Check.due("tries", x.count(3), 6);
        int[] none = {-1, 4, Integer.MIN_VALUE, Integer.MAX_VALUE};
        for (int what : none) {
            Check.noIndex("count(" + what + ")", () -> x.count(what));
        }
    }
}
