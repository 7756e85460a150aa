/** Promises 6 to 10: rings evened, overlaps listed, their agreement and odds. */
public final class MatchesTest {
    private static final String RISING = "1 2 3 4 5 6 7 8 9";

    public static void main(String[] args) {
        evenedRings();
        correlations();
        ranks();
        listAndTries();
        matchRefuses();
        overlapRefuses();
        agreements();
        oddsOfRises();
        oddsAreOneAtMost();
        Check.end();
    }

    private static void evenedRow(String text, int... want) {
        RingMatches x = Check.with(text);
        for (int k = 0; k < want.length; k++) {
            Check.due("evened ring " + k + " of " + text, x.evened(0, k), want[k]);
        }
        Check.noIndex("evened ring -1 of " + text, () -> x.evened(0, -1));
        Check.noIndex("evened ring behind " + text, () -> x.evened(0, want.length));
        Check.noIndex("evened ring far behind " + text, () -> x.evened(0, Integer.MAX_VALUE));
        Check.noIndex("evened ring far ahead of " + text, () -> x.evened(0, Integer.MIN_VALUE));
    }

    private static void evenedRings() {
        evenedRow("100 200 100 - 400", 75, 150, 50, -1, 160);
        evenedRow("1 2", 66, 133);
        evenedRow("7", 100);
        evenedRow("-", -1);
        evenedRow("- - 9 - -", -1, -1, 100, -1, -1);
        // 496 would be the third one's, were it not 200 at most.
        evenedRow("1 1 500 1 1", 0, 0, 200, 0, 0);
        // Two places away counts, three do not.
        evenedRow("10 - - 30", 100, -1, -1, 100);
        evenedRow("10 - 30", 50, -1, 150);
    }

    /** The one overlap of two series with n pairs at shift 0. */
    private static RingMatches laid(String a, String b, int n) {
        RingMatches x = Check.with(a, b);
        Check.due("overlaps of " + a + " / " + b, x.match(0, 1, n), 1);
        Check.due("shift", x.overlap(0, 0), 0);
        Check.due("n", x.overlap(0, 1), n);
        return x;
    }

    private static void correlations() {
        Check.due("rising and rising", laid("1 2 3", "1 2 3", 3).overlap(0, 2), 100);
        Check.due("rising and falling", laid("1 2 3", "3 2 1", 3).overlap(0, 2), -100);
        Check.due("a half", laid("1 2 3", "1 3 2", 3).overlap(0, 2), 50);
        Check.due("a half below 0", laid("1 2 3", "2 3 1", 3).overlap(0, 2), -50);
        Check.due("one stays", laid("1 2 3", "5 5 5", 3).overlap(0, 2), 0);
        Check.due("the other one stays", laid("5 5 5", "1 2 3", 3).overlap(0, 2), 0);
        // Evened: 50 100 150 and 85 42 171; c 12900, u 15000, v 25886: 65.46 hundredths.
        Check.due("rounded down", laid("1 2 3", "2 1 4", 3).overlap(0, 2), 65);
        Check.due("rounded to 0", laid("3 2 1", "2 1 4", 3).overlap(0, 2), -65);
        // Rings are evened by the whole series, the 9 as well that lies on none: 50 100 80.
        Check.due("with missing ones", laid("1 2 3 - -", "1 2 3 - 9", 3).overlap(0, 2), 59);
    }

    private static void ranks() {
        RingMatches x = Check.with("5 5 5 5", "1 2 3 - - 3 2 1", "1 2 3");
        Check.due("equal ones", x.match(0, 0, 3), 3);
        Check.due("more pairs first", x.overlap(0, 0), 0);
        Check.due("then the lower shift", x.overlap(1, 0), -1);
        Check.due("then the greater one", x.overlap(2, 0), 1);
        Check.due("greater and lower ones", x.match(1, 2, 3), 2);
        Check.due("the greater first", x.overlap(0, 2), 100);
        Check.due("its shift", x.overlap(0, 0), 0);
        Check.due("the lower last", x.overlap(1, 2), -100);
        Check.due("its shift", x.overlap(1, 0), 5);
        Check.due("the other way round", x.match(2, 1, 3), 2);
        Check.due("its shift", x.overlap(0, 0), 0);
        Check.due("its last shift", x.overlap(1, 0), -5);
    }

    private static void listAndTries() {
        RingMatches x = Check.with("1 2 3", "1 2 3 4", "-", Check.rings(24, "9"));
        Check.due("two of three pairs", x.match(1, 0, 3), 2);
        Check.due("tries", x.count(3), 6);
        Check.due("none of four", x.match(0, 1, 4), 0);
        Check.due("tries add up", x.count(3), 12);
        Check.due("no overlap", x.count(2), 0);
        Check.noIndex("overlap(0, 0)", () -> x.overlap(0, 0));
        Check.due("missing alone", x.match(2, 2, 3), 0);
        Check.due("is a try", x.count(3), 13);
        Check.due("24 rings on themselves", x.match(3, 3, 3), 43);
        Check.due("47 tries", x.count(3), 60);
        Check.due("24 of 24", x.match(3, 3, 24), 1);
        Check.due("tries", x.count(3), 107);
        x.absent(0, 0, 0);
        x.group(0, 3, 0);
        x.core(0, 0, 0);
        Check.due("only match() tries", x.count(3), 107);
        Check.due("only match() lists", x.count(2), 1);
    }

    private static void matchRefuses() {
        RingMatches x = Check.with("1 2 3", "1 2 3 4");
        x.match(0, 1, 3);
        int[] bad = {2, 25, 0, -3, Integer.MIN_VALUE, Integer.MAX_VALUE};
        for (int least : bad) {
            Check.badArgument("match(0, 1, " + least + ")", () -> x.match(0, 1, least));
            Check.noIndex("match(2, 1, " + least + ")", () -> x.match(2, 1, least));
            Check.noIndex("match(0, -1, " + least + ")", () -> x.match(0, -1, least));
        }
        Check.noIndex("match(0, 8, 3)", () -> x.match(0, 8, 3));
        Check.due("the list stays", x.count(2), 2);
        Check.due("its first", x.overlap(0, 2), 99);
        Check.due("the tries stay", x.count(3), 6);
    }

    private static void overlapRefuses() {
        RingMatches x = Check.with("1 2 3");
        x.match(0, 0, 3);
        int[] bad = {-1, 2, 3, Integer.MIN_VALUE, Integer.MAX_VALUE};
        for (int i : bad) {
            Check.noIndex("overlap(" + i + ", 0)", () -> x.overlap(i, 0));
            Check.noIndex("agree(" + i + ", 0)", () -> x.agree(i, 0));
            Check.noIndex("agree(0, " + i + ")", () -> x.agree(0, i));
            Check.noIndex("odds(" + i + ", 0)", () -> x.odds(i, 0));
            Check.noIndex("odds(0, " + i + ")", () -> x.odds(0, i));
        }
        Check.noIndex("overlap(1, 0)", () -> x.overlap(1, 0));
        Check.noIndex("overlap(0, -1)", () -> x.overlap(0, -1));
        Check.noIndex("overlap(0, 3)", () -> x.overlap(0, 3));
    }

    private static void agreement(String a, String b, int n, String want) {
        RingMatches x = laid(a, b, n);
        Check.same("agreement of " + a + " / " + b, x.agree(0, 0) + "/" + x.agree(0, 1), want);
    }

    private static void agreements() {
        agreement("1 2 2 3 1", "5 6 6 6 9", 5, "5/8");
        agreement("5 6 6 6 9", "1 2 2 3 1", 5, "5/8");
        agreement("1 2 1", "1 2 3", 3, "1/2");
        agreement("1 2 3", "3 2 1", 3, "0/1");
        agreement("3 2 1", "9 5 4", 3, "1/1");
        agreement("3 3 3", "9 9 9", 3, "1/1");
        agreement("3 3 3", "1 2 1", 3, "1/2");
        agreement("1 - 2 - 3", "1 - 2 - 3", 3, "0/1");
        agreement("1 2 - 3 4", "1 2 - 4 3", 4, "1/2");
        // One's missing ring parts the other's as well.
        agreement("1 2 9 4 5", "1 2 - 4 3", 4, "1/2");
    }

    private static void odds(String a, String b, int n, String want) {
        RingMatches x = laid(a, b, n);
        Check.same("odds of " + a + " / " + b, x.odds(0, 0) + "/" + x.odds(0, 1), want);
    }

    private static void oddsOfRises() {
        // r is 8 and there are 17 tries: 17 times 1, 9, 37 of 256 ways.
        odds(RISING, RISING, 9, "17/256");
        odds(RISING, "1 2 3 4 5 6 7 8 8", 9, "17/256");
        odds(RISING, "1 2 3 4 5 6 7 8 7", 9, "153/256");
        odds(RISING, "1 2 3 4 5 6 7 7 6", 9, "153/256");
        odds(RISING, "1 2 3 4 5 6 7 6 5", 9, "1/1");
        RingMatches x = Check.with(RISING);
        x.match(0, 0, 9);
        Check.due("above", x.odds(0, 0), 17);
        x.match(0, 0, 9);
        Check.same("twice the tries", x.odds(0, 0) + "/" + x.odds(0, 1), "17/128");
        // A match that lists nothing adds tries as well.
        x.match(0, 0, 10);
        x.match(0, 0, 9);
        Check.same("four times the tries", x.odds(0, 0) + "/" + x.odds(0, 1), "17/64");
        StringBuilder longest = new StringBuilder("1");
        for (int i = 2; i <= 24; i++) {
            longest.append(' ').append(i);
        }
        odds(longest.toString(), longest.toString(), 24, "47/8388608");
    }

    private static void oddsAreOneAtMost() {
        odds("1 2 3", "1 2 3", 3, "1/1");
        odds("1 - 2 - 3", "1 - 2 - 3", 3, "1/1");
        odds(RISING, "9 8 7 6 5 4 3 2 1", 9, "1/1");
        // Places with a missing ring are none of r, which is 4.
        odds("1 2 3 4 5 - -", "1 2 3 4 5 - -", 5, "13/16");
        RingMatches x = Check.with(RISING);
        for (int i = 0; i < 16; i++) {
            x.match(0, 0, 9);
        }
        Check.same("272 tries of 256", x.odds(0, 0) + "/" + x.odds(0, 1), "1/1");
    }
}
