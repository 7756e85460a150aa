/** Promises 11 to 13, sentence by sentence, at the bounds that they name. */
final class JoinsBounds {
    private static final int[] SIZES = {1, 2, 3, 4, 12, 13, 23, 24};

    private JoinsBounds() {
    }

    static void check() {
        absent();
        absentOfThree();
        absentRefuses();
        core();
        coreOfNone();
        coreRefuses();
        group();
        groupOfEight();
        groupRefuses();
    }

    private static void absent(String a, String b, int shift, int want) {
        Check.due("absent of " + a + " / " + b + " at " + shift, Check.with(a, b).absent(0, 1, shift), want);
    }

    private static void absent() {
        Check.says("Promise 11", "Where a missing ring, put into b ahead of its ring p (0 .. its rings), makes the "
                + "correlation with a at a shift the greatest, of equal ones the lowest p;");
        // With three pairs the first, and the last place alone are left.
        absent("1 2 3", "1 2 3", -1, 0);
        absent("1 2 3", "1 2 3", 0, 3);
        absent("9 8 6 2 1", "8 4 7 3", 0, 4);
        // Of a longer b, a place behind all rings of a: there and at place 0 alone are three pairs.
        absent("1 2 3", "7 1 2 3", -1, 4);
        absent("1 2 3", Check.rings(20, "7") + " 1 2 3", -20, 23);
        // 17 at places 0 and 3, less at the others.
        absent("9 1 3 5 9", "5 6 4 7", 0, 0);
        // A missing ring beside those that are missing: places 3, 4 and 5 make the same.
        absent("1 5 8 - - - 9 - 4 2", "1 5 8 - - 9 - 4 2", 0, 3);
        // All below 0: -84, -36, -77, -97, -96.
        absent("1 2 3 4", "4 3 2 1", 0, 1);
        absent(Check.rings(24, "5"), Check.rings(23, "5"), 0, 0);
        Check.says("Promise 11", "(The ring put in has no width; others are evened as with it.)");
        // Evened as without it these would have 3, 3 and 3; with it as one of the n, 4, 1 and 0.
        absent("5 5 5 8 3", "9 6 8 7", 0, 2);
        absent("9 1 3 5 9", "5 6 4 7", 0, 0);
        absent("9 8 6 2 1", "8 4 7 3", 0, 4);
        RingMatches x = Check.with("9 8 6 2 1", "8 4 7 3");
        x.absent(0, 1, 0);
        Check.same("b stays as it was", Check.textOf(x, 1), "8 4 7 3");
        Check.due("b stays evened", x.evened(1, 3), 64);
        Check.due("no series more", x.count(1), 2);
        Check.due("no list", x.count(2), 0);
        Check.due("no tries", x.count(3), 0);
    }

    /** With rings that are all alike every correlation is 0: the lowest place that leaves three pairs. */
    private static int lowestOfThree(int ofA, int ofB, int shift) {
        for (int p = 0; p <= ofB; p++) {
            int pairs = 0;
            for (int j = 0; j <= ofB; j++) {
                pairs += j != p && j + shift >= 0 && j + shift < ofA ? 1 : 0;
            }
            if (pairs >= 3) {
                return p;
            }
        }
        return -1;
    }

    private static void absentOfThree() {
        Check.says("Promise 11", "NONE, if no such p has three pairs.");
        for (int ofA : SIZES) {
            for (int ofB : SIZES) {
                RingMatches x = Check.with(Check.rings(ofA, "5"), Check.rings(ofB, "5"));
                for (int shift = -24; shift <= 24 && ofB < 24; shift++) {
                    Check.due("absent of " + ofA + " and " + ofB + " at " + shift, x.absent(0, 1, shift),
                            lowestOfThree(ofA, ofB, shift));
                }
            }
        }
        absent("1 2", "1 2 3", 0, -1);
        absent("1 2 -", "1 2 3", 0, -1);
        absent("1 2 3", "1 -", 0, -1);
        absent("1 2 3", "- - - -", 0, -1);
        // Two pairs correlate to 100 at place 0, three to 50 at 3.
        absent("1 2 3", "1 3 2", 0, 3);
        // The only place with three correlates to -100.
        absent("1 1 2", "2 2 1", 0, 3);
    }

    private static void absentRefuses() {
        RingMatches x = Check.with("1 2 3", Check.rings(24, "5"), Check.rings(23, "5"));
        Check.says("Promise 11", "IndexOutOfBoundsException: series.");
        for (int none : Check.andEndsOfInt(-2, -1, 3, 7, 8)) {
            for (int shift : new int[] {Integer.MIN_VALUE, -25, -24, 0, 24, 25, Integer.MAX_VALUE}) {
                Check.noIndex("absent(" + none + ", 0, " + shift + ")", () -> x.absent(none, 0, shift));
                Check.noIndex("absent(0, " + none + ", " + shift + ")", () -> x.absent(0, none, shift));
                Check.noIndex("absent(" + none + ", 1, " + shift + ")", () -> x.absent(none, 1, shift));
            }
        }
        Check.says("Promise 11", "IllegalArgumentException: b has 24 rings, or the shift is not -24 .. 24.");
        Check.badArgument("b of 24", () -> x.absent(0, 1, 0));
        Check.badArgument("b of 24 on itself", () -> x.absent(1, 1, 24));
        Check.due("a of 24", x.absent(1, 0, 0), 0);
        Check.due("b of 23", x.absent(1, 2, 0), 0);
        Check.due("b of 23 on itself", x.absent(2, 2, 0), 0);
        // The last three of 24 lie on a: of a ring put in ahead of place 21 at the latest.
        Check.due("b of 23 at -21", x.absent(0, 2, -21), 0);
        Check.due("b of 23 at -22", x.absent(0, 2, -22), -1);
        for (int bad : Check.andEndsOfInt(-26, -25, 25, 26)) {
            Check.badArgument("shift " + bad, () -> x.absent(0, 0, bad));
            Check.badArgument("shift " + bad + " and b of 24", () -> x.absent(0, 1, bad));
        }
        Check.due("shift -24", x.absent(0, 0, -24), -1);
        Check.due("shift 24", x.absent(0, 0, 24), -1);
        Check.due("shift -24 of b of 23", x.absent(1, 2, -24), -1);
    }

    private static void core(String a, String b, int shift, String want) {
        RingMatches x = Check.with(a, b);
        Check.due("core of " + a + " / " + b + " at " + shift, x.core(0, 1, shift), 2);
        Check.same("its text", Check.textOf(x, 2), want);
        Check.due("core of " + b + " / " + a + " at " + -shift, x.core(1, 0, -shift), 3);
        Check.same("its text", Check.textOf(x, 3), want);
    }

    private static void core() {
        Check.says("Promise 12",
                "Two series joined at a shift: a new one, from the first ring of either to the last one:");
        core("1", "1", 0, "1");
        core("1 2 3", "3 4 5", 2, "1 2 3 4 5");
        core("1 2 3", "9 8 1", -2, "9 8 1 2 3");
        core("1 2 3 4", "3", 2, "1 2 3 4");
        core("- 2 -", "- 2 -", 0, "- 2 -");
        core("- 2 -", "- 2 -", 1, "- 2 2 -");
        core("- 2 -", "- 2 -", 2, "- 2 - 2 -");
        core(Check.rings(13, "4"), Check.rings(12, "4"), 12, Check.rings(24, "4"));
        core(Check.rings(24, "4"), "4", 23, Check.rings(24, "4"));
        core(Check.rings(24, "4"), "4", 0, Check.rings(24, "4"));
        core(Check.rings(24, "4"), Check.rings(24, "4"), 0, Check.rings(24, "4"));
        Check.says("Promise 12", "the mean of both widths, halves up;");
        int[][] means = {
            {1, 1, 1}, {1, 2, 2}, {1, 3, 2}, {2, 2, 2}, {2, 3, 3}, {1, 500, 251}, {2, 500, 251}, {1, 499, 250},
            {498, 500, 499}, {499, 500, 500}, {500, 500, 500}, {9, 10, 10}, {99, 100, 100},
        };
        for (int[] row : means) {
            core("" + row[0], "" + row[1], 0, "" + row[2]);
        }
        Check.says("Promise 12",
                "that of one, where the other one has none; missing, where neither has one: its number;");
        core("- 7 - 7", "- - 8 8", 0, "- 7 8 8");
        core("7 -", "- 8", 1, "7 - 8");
        core("7 -", "8 8", 1, "7 8 8");
        core("-", "-", 0, "-");
        core("-", "500", 0, "500");
        core(Check.rings(24, "-"), Check.rings(24, "1"), 0, Check.rings(24, "1"));
        RingMatches x = Check.with("1 - 3");
        for (int number = 1; number < 8; number++) {
            Check.due("core " + number, x.core(number - 1, 0, 0), number);
            Check.due("series", x.count(1), number + 1);
        }
        Check.same("the last one", Check.textOf(x, 7), "1 - 3");
        Check.due("it is evened", x.evened(7, 2), 150);
        Check.due("its missing ring", x.evened(7, 1), -1);
    }

    private static void coreOfNone() {
        Check.says("Promise 12", "NONE, if it would have more than 24 rings, or they have no place in common.");
        for (int ofA : SIZES) {
            for (int ofB : SIZES) {
                for (int shift = -30; shift <= 30; shift++) {
                    coreOf(ofA, ofB, shift);
                }
                for (int i = 0; i < 30; i++) {
                    coreOf(ofA, ofB, Integer.MIN_VALUE + i);
                    coreOf(ofA, ofB, Integer.MAX_VALUE - i);
                }
            }
        }
    }

    private static void coreOf(int ofA, int ofB, long shift) {
        long rings = Math.max(ofA, ofB + shift) - Math.min(0, shift);
        boolean apart = shift >= ofA || shift + ofB <= 0;
        boolean joins = !apart && rings <= 24;
        RingMatches x = Check.with(Check.rings(ofA, "5"), Check.rings(ofB, "5"));
        Check.due("core of " + ofA + " and " + ofB + " at " + shift, x.core(0, 1, (int) shift), joins ? 2 : -1);
        Check.due("series then", x.count(1), joins ? 3 : 2);
        if (joins) {
            Check.due("its rings", x.width(2, -1), rings);
        } else {
            Check.due("the next core", x.core(1, 1, 0), 2);
        }
    }

    private static void coreRefuses() {
        RingMatches x = Check.with("1", "2", "3", "4", "5", "6", "7");
        Check.says("Promise 12", "IndexOutOfBoundsException;");
        int[] shifts = Check.andEndsOfInt(-1, 0, 1);
        for (int none : Check.andEndsOfInt(-2, -1, 7, 8)) {
            for (int shift : shifts) {
                Check.noIndex("core(" + none + ", 0, " + shift + ")", () -> x.core(none, 0, shift));
                Check.noIndex("core(0, " + none + ", " + shift + ")", () -> x.core(0, none, shift));
            }
        }
        Check.says("Promise 12", "IllegalStateException: there are eight.");
        Check.due("none of seven", x.core(0, 1, 1), -1);
        Check.due("the eighth", x.core(0, 6, 0), 7);
        for (int shift : shifts) {
            Check.badState("a ninth at " + shift, () -> x.core(0, 1, shift));
            Check.noIndex("of no series at " + shift, () -> x.core(8, 0, shift));
            Check.noIndex("of no other series at " + shift, () -> x.core(0, -1, shift));
        }
        Check.due("series", x.count(1), 8);
        Check.due("the eighth stays", x.width(7, 0), 4);
    }

    private static void groupSentence() {
        Check.says("Promise 13", "The least series of the group of one: two are joined in a group if some overlap of "
                + "theirs has n not below least, and a correlation not below a bound, "
                + "and so are those that are joined to one.");
    }

    private static void group() {
        groupSentence();
        // Three pairs correlate to 99 and 93, four to -28 and -65.
        RingMatches x = Check.with("5 1 8 7", "4 9 7 1 9");
        int[][] want = {
            {3, 99, 0}, {3, 100, 1}, {4, -28, 0}, {4, -27, 1}, {4, -65, 0}, {5, -100, 1}, {3, 98, 0}, {24, -100, 1},
            {3, Integer.MIN_VALUE, 0}, {4, Integer.MIN_VALUE, 0}, {5, Integer.MIN_VALUE, 1},
            {3, Integer.MAX_VALUE, 1}, {4, Integer.MAX_VALUE, 1},
        };
        for (int[] row : want) {
            Check.due("group(1, " + row[0] + ", " + row[1] + ")", x.group(1, row[0], row[1]), row[2]);
            Check.due("group(0, " + row[0] + ", " + row[1] + ")", x.group(0, row[0], row[1]), 0);
        }
        // An overlap at the first and at the last shift with three pairs.
        RingMatches y = Check.with("7", Check.rings(21, "-") + " 1 2 4", "1 2 4 " + Check.rings(21, "-"));
        Check.due("at shift 21", y.group(2, 3, 100), 1);
        Check.due("not with 101", y.group(2, 3, 101), 2);
        Check.due("not with four", y.group(2, 4, -100), 2);
        Check.due("one ring", y.group(0, 3, Integer.MIN_VALUE), 0);
        RingMatches z = Check.with("1 2 4 " + Check.rings(21, "-"), Check.rings(21, "-") + " 1 2 4");
        Check.due("at shift -21", z.group(1, 3, 100), 0);
        // The shift is above all rings of the one, or below all of the other.
        RingMatches shortFirst = Check.with("1 2 4", Check.rings(21, "-") + " 1 2 4");
        Check.due("a longer one with a shorter", shortFirst.group(1, 3, 100), 0);
        RingMatches longFirst = Check.with(Check.rings(21, "-") + " 1 2 4", "1 2 4");
        Check.due("a shorter one with a longer", longFirst.group(1, 3, 100), 0);
        RingMatches full = Check.with(Check.rings(24, "1"), Check.rings(24, "500"), Check.rings(23, "5"));
        Check.due("24 pairs of 0", full.group(1, 24, 0), 0);
        Check.due("24 pairs of 1", full.group(1, 24, 1), 1);
        Check.due("23 pairs", full.group(2, 24, Integer.MIN_VALUE), 2);
        Check.due("23 of 23 pairs", full.group(2, 23, 0), 0);
        Check.due("no list", full.count(2), 0);
        Check.due("no tries", full.count(3), 0);
    }

    /** A chain, 0 7 1 6 2 5 3 4, in which only neighbours have four pairs of 100. */
    private static void groupOfEight() {
        groupSentence();
        String[] chain = {
            "6 7 1 8 - - 1 3 4 2", "4 8 6 9 - - 6 9 5 8", "2 6 5 1 - - 7 2 4 6", "9 6 3 6 - - 5 9 2 5",
            "5 9 2 5 - - 6 5 3 2", "7 2 4 6 - - 9 6 3 6", "6 9 5 8 - - 2 6 5 1", "1 3 4 2 - - 4 8 6 9",
        };
        int[] order = {0, 7, 1, 6, 2, 5, 3, 4};
        RingMatches x = Check.with(chain);
        for (int i = 0; i < 8; i++) {
            for (int j = i + 1; j < 8; j++) {
                x.match(order[i], order[j], 4);
                Check.same(order[i] + " and " + order[j] + " have 100", x.overlap(0, 2) == 100, j == i + 1);
            }
            Check.due("group of " + i, x.group(i, 4, 100), 0);
            Check.due("group of " + i + " at 101", x.group(i, 4, 101), i);
        }
        // Without 1 the chain falls into 0 7 and 6 2 5 3 4.
        chain[1] = "7";
        RingMatches y = Check.with(chain);
        int[] want = {0, 1, 2, 2, 2, 2, 2, 0};
        for (int i = 0; i < 8; i++) {
            Check.due("group of " + i + " without 1", y.group(i, 4, 100), want[i]);
        }
    }

    private static void groupRefuses() {
        RingMatches x = Check.with("1 2 3", "1 2 3");
        Check.says("Promise 13", "IndexOutOfBoundsException;");
        for (int none : Check.andEndsOfInt(-2, -1, 2, 7, 8)) {
            for (int least : Check.andEndsOfInt(2, 3, 24, 25)) {
                Check.noIndex("group(" + none + ", " + least + ", 0)", () -> x.group(none, least, 0));
            }
        }
        Check.says("Promise 13", "IllegalArgumentException: least is not 3 .. 24.");
        for (int bad : Check.andEndsOfInt(-3, 0, 1, 2, 25, 26)) {
            for (int bound : Check.andEndsOfInt(-100, 0, 100)) {
                Check.badArgument("group(0, " + bad + ", " + bound + ")", () -> x.group(0, bad, bound));
            }
        }
        for (int least = 3; least <= 24; least++) {
            Check.due("least " + least, x.group(1, least, 100), least == 3 ? 0 : 1);
        }
    }
}
