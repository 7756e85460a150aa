/** Promises 6 to 10, sentence by sentence, at the bounds that they name. */
final class MatchesBounds {
    private static final int[] SIZES = {1, 2, 3, 4, 12, 23, 24};
    private static final int[] LEASTS = {3, 4, 12, 23, 24};

    private MatchesBounds() {
    }

    static void check() {
        evened();
        match();
        tries();
        ranks();
        matchRefuses();
        overlap();
        agree();
        odds();
    }

    private static void evened() {
        Check.says("Promise 6", "A ring evened; NONE if it is missing.");
        RingMatches x = Check.with("1", "-", "1 - 3", Check.rings(23, "7") + " 21");
        Check.due("the only ring", x.evened(0, 0), 100);
        Check.due("the only ring, missing", x.evened(1, 0), RingMatches.NONE);
        Check.due("the first", x.evened(2, 0), 50);
        Check.due("a missing one", x.evened(2, 1), RingMatches.NONE);
        Check.due("the last", x.evened(2, 2), 150);
        Check.due("the first of 24", x.evened(3, 0), 100);
        Check.due("the last of 24", x.evened(3, 23), 180);
        Check.says("Promise 6", "IndexOutOfBoundsException.");
        int[] many = {1, 1, 3, 24};
        for (int i = 0; i < many.length; i++) {
            int series = i;
            for (int none : Check.andEndsOfInt(-2, -1, many[i], many[i] + 1, 25)) {
                Check.noIndex("evened(" + i + ", " + none + ")", () -> x.evened(series, none));
            }
        }
        for (int none : Check.andEndsOfInt(-2, -1, 4, 7, 8)) {
            Check.noIndex("evened(" + none + ", 0)", () -> x.evened(none, 0));
            Check.noIndex("evened(" + none + ", -1)", () -> x.evened(none, -1));
        }
    }

    /** How many rings of b lie on one of a. */
    private static int inCommon(int ofA, int ofB, int shift) {
        int many = 0;
        for (int j = 0; j < ofB; j++) {
            many += j + shift >= 0 && j + shift < ofA ? 1 : 0;
        }
        return many;
    }

    private static void match() {
        Check.says("Promise 7", "Lists all overlaps of two series with a least n: how many there are.");
        for (int ofA : SIZES) {
            for (int ofB : SIZES) {
                for (int least : LEASTS) {
                    RingMatches x = Check.with(Check.rings(ofA, "5"), Check.rings(ofB, "5"));
                    int want = 0;
                    for (int shift = -30; shift <= 30; shift++) {
                        want += inCommon(ofA, ofB, shift) >= least ? 1 : 0;
                    }
                    Check.due("match of " + ofA + " and " + ofB + ", " + least, x.match(0, 1, least), want);
                    Check.due("overlaps", x.count(2), want);
                    checkEqualRanks(x, ofA, ofB);
                }
            }
        }
        RingMatches x = Check.with(Check.rings(24, "5"), "1 2 -");
        Check.due("24 of 24, least 3", x.match(0, 0, 3), 43);
        Check.due("24 of 24, least 24", x.match(0, 0, 24), 1);
        Check.due("24 of 24, least 23", x.match(0, 0, 23), 3);
        Check.due("two pairs at most", x.match(0, 1, 3), 0);
    }

    /** Rings that are all alike correlate to 0, so that n, then the shift ranks them. */
    private static void checkEqualRanks(RingMatches x, int ofA, int ofB) {
        for (int k = 0; k < x.count(2); k++) {
            Check.due("correlation", x.overlap(k, 2), 0);
            Check.due("n", x.overlap(k, 1), inCommon(ofA, ofB, x.overlap(k, 0)));
            if (k > 0) {
                int n = x.overlap(k, 1);
                int ahead = x.overlap(k - 1, 1);
                Check.same("rank " + k, ahead > n || ahead == n && x.overlap(k - 1, 0) < x.overlap(k, 0), true);
            }
        }
    }

    private static void tries() {
        Check.says("Promise 7", "Each shift with a place in common is a try.");
        for (int ofA : SIZES) {
            for (int ofB : SIZES) {
                RingMatches x = Check.with(Check.rings(ofA, "5"), Check.rings(ofB, "-"));
                x.match(0, 1, 3);
                Check.due("tries of " + ofA + " and " + ofB, x.count(3), ofA + ofB - 1);
                x.match(1, 0, 24);
                Check.due("tries of both ways", x.count(3), 2 * (ofA + ofB - 1));
                x.match(0, 0, 24);
                Check.due("tries with itself", x.count(3), 2 * (ofA + ofB - 1) + 2 * ofA - 1);
            }
        }
    }

    private static void row(RingMatches x, int k, int shift, int n, int correlation) {
        Check.due("shift of " + k, x.overlap(k, 0), shift);
        Check.due("n of " + k, x.overlap(k, 1), n);
        Check.due("correlation of " + k, x.overlap(k, 2), correlation);
    }

    private static void ranks() {
        Check.says("Promise 7", "They are ranked by correlation, the greater first, then by n, the greater first, "
                + "then by shift, the lower first.");
        // A greater correlation goes ahead of more pairs; those below 0 come last.
        RingMatches x = Check.with("5 1 8 7", "4 9 7 1 9", "1 1 2 - - 2 2 1 - - 5 5 5 - - 1 2 1", "1 1 2");
        Check.due("overlaps", x.match(0, 1, 3), 4);
        row(x, 0, -2, 3, 99);
        row(x, 1, 1, 3, 93);
        row(x, 2, -1, 4, -28);
        row(x, 3, 0, 4, -65);
        Check.due("overlaps the other way", x.match(1, 0, 3), 4);
        row(x, 0, 2, 3, 99);
        row(x, 1, -1, 3, 93);
        row(x, 2, 1, 4, -28);
        row(x, 3, 0, 4, -65);
        Check.due("100, 0, -50 and -100", x.match(2, 3, 3), 4);
        row(x, 0, 0, 3, 100);
        row(x, 1, 10, 3, 0);
        row(x, 2, 15, 3, -50);
        row(x, 3, 5, 3, -100);
        // Equal correlations: more pairs, then the lower shift.
        RingMatches y = Check.with("5 5 5 5 5", "1 1 2 - - 1 1 2", "1 1 2");
        Check.due("all 0", y.match(0, 0, 3), 5);
        row(y, 0, 0, 5, 0);
        row(y, 1, -1, 4, 0);
        row(y, 2, 1, 4, 0);
        row(y, 3, -2, 3, 0);
        row(y, 4, 2, 3, 0);
        Check.due("two of 100", y.match(1, 2, 3), 2);
        row(y, 0, 0, 3, 100);
        row(y, 1, 5, 3, 100);
        Check.due("two of 100 the other way", y.match(2, 1, 3), 2);
        row(y, 0, -5, 3, 100);
        row(y, 1, 0, 3, 100);
        Check.due("three of 100, two below", y.match(1, 1, 3), 5);
        row(y, 0, 0, 6, 100);
        row(y, 1, -5, 3, 100);
        row(y, 2, 5, 3, 100);
    }

    private static void matchRefuses() {
        RingMatches x = Check.with("1 2 3", Check.rings(24, "7"));
        x.match(0, 0, 3);
        Check.says("Promise 7", "IndexOutOfBoundsException;");
        for (int none : Check.andEndsOfInt(-2, -1, 2, 3, 7, 8)) {
            for (int least : new int[] {2, 3, 24, 25}) {
                Check.noIndex("match(" + none + ", 0, " + least + ")", () -> x.match(none, 0, least));
                Check.noIndex("match(0, " + none + ", " + least + ")", () -> x.match(0, none, least));
                Check.noIndex("match(" + none + ", " + none + ", " + least + ")", () -> x.match(none, none, least));
            }
        }
        Check.says("Promise 7", "IllegalArgumentException: least is not 3 .. 24.");
        for (int bad : Check.andEndsOfInt(-3, -1, 0, 1, 2, 25, 26)) {
            Check.badArgument("least " + bad, () -> x.match(0, 0, bad));
            Check.badArgument("least " + bad + " of 24 rings", () -> x.match(1, 1, bad));
        }
        Check.due("the list stays", x.count(2), 1);
        Check.due("the tries stay", x.count(3), 5);
        for (int least = 3; least <= 24; least++) {
            Check.due("least " + least, x.match(1, 1, least), 2 * (24 - least) + 1);
        }
    }

    private static void overlap() {
        Check.says("Promise 8", "Overlap k of the latest list, as it was: 0 its shift, 1 n, 2 its correlation.");
        RingMatches x = Check.with(Check.rings(24, "7"), "1 2 3", "1");
        x.match(0, 0, 3);
        row(x, 0, 0, 24, 0);
        row(x, 1, -1, 23, 0);
        row(x, 41, -21, 3, 0);
        row(x, 42, 21, 3, 0);
        x.read();
        Check.readText(x, "9 9 9");
        x.core(0, 1, 0);
        x.absent(0, 1, 0);
        x.group(0, 3, 0);
        x.unit('5', 0);
        Check.badArgument("least 2", () -> x.match(1, 1, 2));
        Check.noIndex("no series", () -> x.match(1, 5, 3));
        row(x, 42, 21, 3, 0);
        Check.due("the latest list", x.match(1, 1, 3), 1);
        row(x, 0, 0, 3, 100);
        Check.says("Promise 8", "IndexOutOfBoundsException: there is none, or what is none of these.");
        for (int none : Check.andEndsOfInt(-2, -1, 1, 2, 42, 43, 46, 47)) {
            for (int what = -1; what <= 3; what++) {
                int asked = what;
                Check.noIndex("overlap(" + none + ", " + what + ")", () -> x.overlap(none, asked));
            }
        }
        for (int none : Check.andEndsOfInt(-2, -1, 3, 4)) {
            Check.noIndex("overlap(0, " + none + ")", () -> x.overlap(0, none));
        }
        x.match(0, 0, 3);
        Check.noIndex("overlap(43, 0) of 43", () -> x.overlap(43, 0));
        Check.due("an empty list", x.match(2, 2, 3), 0);
        for (int what = 0; what < 3; what++) {
            int asked = what;
            Check.noIndex("overlap(0, " + what + ") of none", () -> x.overlap(0, asked));
        }
    }

    private static void agree() {
        Check.says("Promise 9", "Its agreement: above (0) or below (1).");
        RingMatches x = Check.with("1 2 3 4", "4 3 2 2", "1");
        // Shifts -1, 0 and 1: 1 of 4, 1 of 6, none of 4.
        Check.due("overlaps", x.match(0, 1, 3), 3);
        String[] want = {"1/4", "1/6", "0/1"};
        for (int k = 0; k < 3; k++) {
            int shift = x.overlap(k, 0);
            Check.same("agreement at shift " + shift, x.agree(k, 0) + "/" + x.agree(k, 1), want[shift + 1]);
        }
        Check.says("Promise 9", "IndexOutOfBoundsException.");
        for (int none : Check.andEndsOfInt(-2, -1, 3, 4, 46, 47)) {
            Check.noIndex("agree(" + none + ", 0)", () -> x.agree(none, 0));
            Check.noIndex("agree(" + none + ", 1)", () -> x.agree(none, 1));
        }
        for (int none : Check.andEndsOfInt(-2, -1, 2, 3)) {
            Check.noIndex("agree(0, " + none + ")", () -> x.agree(0, none));
            Check.noIndex("agree(3, " + none + ")", () -> x.agree(3, none));
        }
        x.match(2, 2, 3);
        Check.noIndex("agree(0, 0) of none", () -> x.agree(0, 0));
        Check.noIndex("agree(0, 1) of none", () -> x.agree(0, 1));
    }

    private static void odds() {
        Check.says("Promise 10", "Its odds, with the tries as they are now: above (0) or below (1).");
        RingMatches x = Check.with(Check.rising(9), "1");
        // The tries of its own match count all, those behind it as well; r is 8, g is 8.
        x.match(0, 0, 9);
        oddsAre(x, "17/256");
        x.match(1, 1, 3);
        x.match(0, 0, 9);
        oddsAre(x, "35/256");
        Check.badArgument("least 2", () -> x.match(0, 0, 2));
        oddsAre(x, "35/256");
        // At shifts -1 and 1 r is 7.
        x.match(0, 0, 8);
        Check.due("overlaps", x.count(2), 3);
        for (int k = 0; k < 3; k++) {
            String want = x.overlap(k, 0) == 0 ? "13/64" : "13/32";
            Check.same("odds of " + k, x.odds(k, 0) + "/" + x.odds(k, 1), want);
        }
        Check.says("Promise 10", "IndexOutOfBoundsException.");
        for (int none : Check.andEndsOfInt(-2, -1, 3, 4, 46, 47)) {
            Check.noIndex("odds(" + none + ", 0)", () -> x.odds(none, 0));
            Check.noIndex("odds(" + none + ", 1)", () -> x.odds(none, 1));
        }
        for (int none : Check.andEndsOfInt(-2, -1, 2, 3)) {
            Check.noIndex("odds(0, " + none + ")", () -> x.odds(0, none));
            Check.noIndex("odds(3, " + none + ")", () -> x.odds(3, none));
        }
        // Where they are 1 / 1, a part is looked at as well.
        RingMatches y = Check.with("1 2 3", "1");
        y.match(0, 0, 3);
        oddsAre(y, "1/1");
        Check.noIndex("odds(0, -1) of 1 / 1", () -> y.odds(0, -1));
        Check.noIndex("odds(0, 2) of 1 / 1", () -> y.odds(0, 2));
        y.match(1, 1, 3);
        Check.noIndex("odds(0, 0) of none", () -> y.odds(0, 0));
        Check.noIndex("odds(0, 1) of none", () -> y.odds(0, 1));
    }

    private static void oddsAre(RingMatches x, String want) {
        Check.same("odds with " + x.count(3) + " tries", x.odds(0, 0) + "/" + x.odds(0, 1), want);
    }
}
