/** The sentences of "What it is" and "Terms", at the bounds that they name. */
final class TermsBounds {
    // 8 rings of evened 200 and 16 of 0: the products of their spread are far above the ends of int.
    private static final String PEAKS = Check.rings(8, "1 500 1");

    private TermsBounds() {
    }

    static void check() {
        whatItIs();
        calls();
        laterCalls();
        series();
        rings();
        widths();
        pad();
        text();
        evened();
        shift();
        pairs();
        correlation();
        correlationOfGreatNumbers();
        agreement();
        odds();
        oddsOfGreatNumbers();
        tries();
    }

    private static void says(String sentence) {
        Check.says("Terms", sentence);
    }

    /** An object with two series of 24 rings that has had 511 calls, 504 of them matches of 47 tries. */
    private static RingMatches afterCall511() {
        RingMatches x = new RingMatches();
        String text = "1 2 3 4 5 6 7 8 9 " + Check.rings(14, "9") + " 8";
        Check.type(x, text);
        Check.due("the 7th call", x.read(), 0);
        for (int call = 8; call <= 511; call++) {
            Check.due("call " + call, x.match(0, 0, 24), 1);
        }
        return x;
    }

    private static void calls() {
        isSaid("An object is used for at most 512 calls after it has been made;");
        Check.due("the 512th call, of tries", afterCall511().count(3), 504 * 47);
        Check.due("the 512th call, of correlation", afterCall511().overlap(0, 2), 100);
        // 23688 of 2 to the power of 23, both divided by 8.
        Check.due("the 512th call, of odds above", afterCall511().odds(0, 0), 2961);
        Check.due("the 512th call, of odds below", afterCall511().odds(0, 1), 1048576);
    }

    private static void whatItIs() {
        isSaid("Tree rings: series of widths with missing ones,");
        RingMatches x = Check.with("1 9 - 1 9 9", "1 9 1 9 9");
        Check.due("a missing ring", x.width(0, 2), RingMatches.NONE);
        Check.due("a width", x.width(0, 4), 9);
        isSaid("made even,");
        Check.due("9 of 1 9 9", x.evened(0, 5), 142);
        isSaid("all overlaps of two by correlation and by agreement of their rises,");
        Check.due("overlaps of five rings", x.match(1, 1, 5), 1);
        Check.due("correlation with itself", x.overlap(0, 2), 100);
        Check.due("agreement with itself, above", x.agree(0, 0), 1);
        Check.due("agreement with itself, below", x.agree(0, 1), 1);
        isSaid("with odds of as many tries;");
        // One way to take four of four, of 16, times nine tries.
        Check.due("odds above", x.odds(0, 0), 9);
        Check.due("odds below", x.odds(0, 1), 16);
        isSaid("a ring put in where it may be missing,");
        Check.due("missing ahead of ring", x.absent(0, 1, 0), 2);
        isSaid("cores joined, groups;");
        Check.due("a core", x.core(0, 1, 1), 2);
        Check.due("its group", x.group(2, 6, 100), 2);
        Check.due("its group, of any correlation", x.group(2, 3, -100), 0);
        isSaid("texts read and written back.");
        Check.same("series 0", Check.textOf(x, 0), "1 9 - 1 9 9");
        Check.same("the core", Check.textOf(x, 2), "1 5 9 1 9 9");
    }

    private static void isSaid(String clause) {
        Check.says("What it is", clause);
    }

    /** Their answers are free, but the language's rule 7 holds for them too: no call ever throws by itself. */
    private static void laterCalls() {
        isSaid("what later calls answer is free.");
        RingMatches x = afterCall511();
        for (int round = 0; round < 9; round++) {
            for (int number : Check.andEndsOfInt(-1, 0, 1, 24)) {
                mayThrow("unit", () -> x.unit(number, number), "IllegalArgument", "IllegalState");
                mayThrow("read", x::read, "IllegalState");
                mayThrow("width", () -> x.width(0, number), "IndexOutOfBounds");
                mayThrow("written", () -> x.written(0, number), "IndexOutOfBounds");
                mayThrow("evened", () -> x.evened(0, number), "IndexOutOfBounds");
                mayThrow("match", () -> x.match(0, 0, number), "IndexOutOfBounds", "IllegalArgument");
                mayThrow("overlap", () -> x.overlap(0, number), "IndexOutOfBounds");
                mayThrow("agree", () -> x.agree(0, number), "IndexOutOfBounds");
                mayThrow("odds", () -> x.odds(0, number), "IndexOutOfBounds");
                mayThrow("absent", () -> x.absent(0, 0, number), "IndexOutOfBounds", "IllegalArgument");
                mayThrow("core", () -> x.core(0, 0, number), "IndexOutOfBounds", "IllegalState");
                mayThrow("group", () -> x.group(0, number, number), "IndexOutOfBounds", "IllegalArgument");
                mayThrow("count", () -> x.count(number), "IndexOutOfBounds");
            }
        }
    }

    private static void mayThrow(String call, Check.Call asked, String... kinds) {
        String told = Check.told(asked);
        boolean isFree = !told.startsWith("throws.");
        for (String kind : kinds) {
            isFree |= told.equals("throws." + kind + "Exception");
        }
        Check.same("a later " + call + ": " + told + " may be", isFree, true);
    }

    private static void series() {
        says("SERIES are 0 .. 7,");
        RingMatches x = new RingMatches();
        for (int number = 0; number < 8; number++) {
            int next = number;
            Check.noIndex("series " + number + " is not there yet", () -> x.width(next, -1));
            Check.due("series " + number, Check.readText(x, "" + (number + 1)), number);
            Check.due("its ring", x.width(number, 0), number + 1);
        }
        for (int none : Check.andEndsOfInt(-2, -1, 8, 9)) {
            Check.noIndex("series " + none, () -> x.width(none, -1));
        }
        Check.type(x, "9");
        Check.badState("a ninth series", x::read);
    }

    private static void rings() {
        says("rows of 1 .. 24 RINGS,");
        for (int many = 1; many <= 24; many++) {
            RingMatches x = Check.with(Check.rings(many, "7"), Check.rings(many, "-"));
            Check.due(many + " rings", x.width(0, -1), many);
            Check.due(many + " missing rings", x.width(1, -1), many);
        }
        RingMatches x = new RingMatches();
        Check.due("0 rings", Check.readText(x, ""), -1);
        Check.due("25 rings", Check.readText(x, Check.rings(25, "7")), -48);
        Check.due("25 missing rings", Check.readText(x, Check.rings(25, "-")), -48);
        Check.due("no series", x.count(1), 0);
    }

    private static void widths() {
        says("each a WIDTH 1 .. 500 or MISSING.");
        for (int width = 1; width <= 500; width++) {
            RingMatches x = Check.with("" + width);
            Check.due("width " + width, x.width(0, 0), width);
            Check.same("its text", Check.textOf(x, 0), "" + width);
        }
        for (int width = 501; width <= 1100; width++) {
            Check.due("width " + width, Check.readText(new RingMatches(), "" + width), width < 1000 ? -3 : -4);
        }
        RingMatches x = new RingMatches();
        Check.due("width 0", Check.readText(x, "0"), -1);
        Check.due("missing", Check.readText(x, "-"), 0);
        Check.due("its width", x.width(0, 0), -1);
    }

    private static void pad() {
        says("THE PAD is a row of at most 100 SIGNS 32 .. 126;");
        for (int sign = 0; sign < 256; sign++) {
            for (int place = 0; place < 8; place++) {
                RingMatches x = new RingMatches();
                int a = place < 4 ? sign << 8 * place : 0;
                int b = place < 4 ? 0 : sign << 8 * (place - 4);
                boolean fits = sign >= 32 && sign <= 126;
                String want = fits ? "1" : sign == 0 ? "0" : "throws.IllegalArgumentException";
                Check.same("sign " + sign + " at place " + place, Check.told(() -> x.unit(a, b)), want);
                Check.due("signs behind it", x.count(0), fits ? 1 : 0);
            }
        }
        for (int many = 0; many <= 100; many++) {
            for (int more = 0; more <= 8; more++) {
                padOf(many, more);
            }
        }
    }

    private static void padOf(int many, int more) {
        RingMatches x = new RingMatches();
        Check.type(x, "~".repeat(many));
        String signs = " ".repeat(more);
        boolean fits = many + more <= 100;
        Check.same(more + " signs behind " + many,
                Check.told(() -> x.unit(Check.packed(signs, 0), Check.packed(signs, 4))),
                fits ? "" + (many + more) : "throws.IllegalStateException");
        Check.due("signs then", x.count(0), fits ? many + more : many);
    }

    private static void text() {
        says("a series' TEXT has for each ring its width (without 0 ahead) or \"-\", one 32 between two.");
        String[] texts = {
            "1", "-", "9 10 99 100 500", "- 1 -", "1 - 1", "- -", "100 20 3",
            Check.rings(24, "500"), Check.rings(24, "-"),
        };
        for (String text : texts) {
            Check.same("text", Check.textOf(Check.with(text), 0), text);
        }
        Object[][] none = {
            {"01", -1}, {"00", -1}, {"010", -1}, {"1 01", -3}, {"- 0", -3}, {" 1", -1}, {"1  1", -3}, {"-  -", -3},
            {"1 ", -3}, {"- ", -3}, {"-1", -2}, {"1-", -2}, {"--", -2}, {"1\t1", null}, {"1,1", -2},
        };
        for (Object[] row : none) {
            RingMatches x = new RingMatches();
            String text = (String) row[0];
            if (row[1] == null) {
                Check.badArgument("a sign that no pad has in " + text, () -> Check.readText(x, text));
            } else {
                Check.same("read of '" + text + "'", Check.readText(x, text), row[1]);
            }
        }
        RingMatches x = Check.with("8 98 9 99", "9 99 10 100");
        Check.due("a core", x.core(0, 1, 0), 2);
        Check.same("its text", Check.textOf(x, 2), "9 99 10 100");
    }

    private static void evened(String text, int k, int want) {
        Check.due("ring " + k + " of " + text + " evened", Check.with(text).evened(0, k), want);
    }

    private static void evened() {
        says("EVENED, a ring has 100 times its width times n, divided by the sum of the widths of the n rings that are "
                + "not missing within two places of it (with it), rounded down,");
        evened("7", 0, 100);
        evened("500", 0, 100);
        evened("7 7 7 7 7", 2, 100);
        // Two places away is within, three are not, on either side.
        evened("1 - 3", 0, 50);
        evened("1 - 3", 2, 150);
        evened("1 - - 3", 0, 100);
        evened("1 - - 3", 3, 100);
        evened("100 1 1 3 1 1 100", 3, 200);
        evened("100 1 1 2 1 1 100", 3, 166);
        // The ends of a series: three, four, five, four and three rings are within.
        String ends = "10 20 30 40 50";
        int[] want = {50, 80, 100, 114, 125};
        for (int k = 0; k < want.length; k++) {
            evened(ends, k, want[k]);
        }
        String longest = Check.rings(22, "10") + " 10 40";
        evened(longest, 21, 62);
        evened(longest, 22, 57);
        evened(longest, 23, 200);
        evened(longest, 20, 100);
        evened("100 100 1 100 199", 2, 1);
        evened("100 100 1 100 200", 2, 0);
        evened("500 500 1 500 500", 2, 0);
        evened("500 500 500 500 500", 2, 100);
        says("but 200 at most;");
        evened("75 75 200 75 76", 2, 199);
        evened("1 2 4 1 2", 2, 200);
        // Just 201 without it.
        evened("75 75 201 75 74", 2, 200);
        evened("1 1 500 1 1", 2, 200);
        says("a missing one has none.");
        evened("-", 0, -1);
        evened("5 5 - 5 5", 2, -1);
        evened(Check.rings(23, "5") + " -", 23, -1);
        evened("- 5", 0, -1);
    }

    private static void shift() {
        says("AN OVERLAP of series a and b at a SHIFT s: ring j of b lies on ring j + s of a.");
        RingMatches x = Check.with(Check.rings(21, "-") + " 1 2 4", "1 2 4", "1 2 4 " + Check.rings(21, "-"));
        only(x, 0, 1, 21);
        only(x, 1, 0, -21);
        only(x, 0, 2, 21);
        only(x, 2, 0, -21);
        only(x, 2, 1, 0);
        only(x, 0, 0, 0);
    }

    private static void only(RingMatches x, int a, int b, int shift) {
        Check.due("overlaps of " + a + " and " + b, x.match(a, b, 3), 1);
        Check.due("its shift", x.overlap(0, 0), shift);
        Check.due("its n", x.overlap(0, 1), 3);
        Check.due("its correlation", x.overlap(0, 2), 100);
    }

    private static void pairs() {
        says("Its PAIRS are places where neither is missing; n is how many.");
        pairs("1 2 3 4", "1 2 3 4", 4);
        pairs("1 2 3 4", "- 2 3 4", 3);
        pairs("1 2 3 -", "1 2 3 4", 3);
        pairs("1 - 3 4 5", "1 2 3 - 5", 3);
        pairs("1 - 3 4 5", "1 - 3 4 5", 4);
        pairs(Check.rings(24, "3"), Check.rings(24, "3"), 24);
        pairs("- " + Check.rings(23, "3"), Check.rings(23, "3") + " -", 22);
        RingMatches x = Check.with("1 - 3", "- 2 -", "- - -", "1 2 3");
        Check.due("none of three", x.match(0, 1, 3), 0);
        Check.due("none of three missing", x.match(2, 3, 3), 0);
        Check.due("none of two", x.match(0, 3, 3), 0);
    }

    /** That the overlap at shift 0 has so many pairs, and is left out with a least n of one more. */
    private static void pairs(String a, String b, int n) {
        RingMatches x = Check.with(a, b);
        x.match(0, 1, n);
        boolean found = false;
        for (int k = 0; k < x.count(2); k++) {
            if (x.overlap(k, 0) == 0) {
                found = true;
                Check.due("pairs of " + a + " / " + b, x.overlap(k, 1), n);
            }
        }
        Check.same("shift 0 of " + a + " / " + b + " is listed", found, true);
        if (n < 24) {
            x.match(0, 1, n + 1);
            for (int k = 0; k < x.count(2); k++) {
                Check.same("it is not any more", x.overlap(k, 0) == 0, false);
            }
        }
    }

    /** The only overlap of two series that has so many pairs. */
    private static RingMatches laid(String a, String b, int n) {
        RingMatches x = Check.with(a, b);
        Check.due("overlaps of " + a + " / " + b, x.match(0, 1, n), 1);
        Check.due("its n", x.overlap(0, 1), n);
        return x;
    }

    private static void correlation(String a, String b, int n, int want) {
        Check.due("correlation of " + a + " / " + b, laid(a, b, n).overlap(0, 2), want);
        Check.due("correlation of " + b + " / " + a, laid(b, a, n).overlap(0, 2), want);
    }

    private static void correlation() {
        says("CORRELATION of its pairs' evened rings x, y in hundredths: with c = n sum(x y) - sum(x) sum(y), "
                + "u = n sum(x x) - sum(x) sum(x), v likewise of y:");
        // Evened 50 100 150 and 85 42 171: c 12900, u 15000, v 25886, which is 65.46.
        correlation("1 2 3", "2 1 4", 3, 65);
        // The 9s have no pair, but even others, 50 53 80 and 50 100 80: c 510, u 1638, v 3800, which is 20.44.
        correlationAtShift0("1 2 3 9 -", "1 2 3 - 9", 20);
        says("the greatest whole t such that t t u v is not above 10000 c c,");
        correlation("1 1 2", "1 1 2", 3, 100);
        // c 4500, u 11250, v 7200: just 50.
        correlation("1 1 2", "1 2 2", 3, 50);
        // 99.999998, 89.0007, 52.9988, 0.05 and 0.86.
        correlation("1 2 5", "4 5 8", 3, 99);
        correlation("1 3 7", "1 4 5", 3, 89);
        correlation("5 6 7", "5 7 6", 3, 52);
        correlation("2 4 5", "7 3 8", 3, 0);
        correlation("1 1 3", "2 4 3", 3, 0);
        allCorrelations();
        says("below 0 if c is;");
        // Evened to 99 and 100: c is -1, 1 and 2, u and v are 2.
        correlation("100 100 101", "100 101 100", 3, -50);
        correlation("100 100 101", "101 100 101", 3, 50);
        correlation("100 100 101", "100 100 101", 3, 100);
        correlation("1 1 2", "2 2 1", 3, -100);
        correlation("1 1 2", "1 2 1", 3, -50);
        // -74.00004, -2.9997, -99.999998 and -1.13.
        correlation("1 3 7", "5 7 2", 3, -74);
        correlation("4 7 8", "7 4 8", 3, -2);
        correlation("3 6 7", "8 5 4", 3, -99);
        correlation("1 7 8", "5 8 3", 3, -1);
        says("0 if u or v is 0.");
        correlation("5 5 5", "1 2 3", 3, 0);
        correlation("5 5 5", "5 5 5", 3, 0);
        correlation(Check.rings(24, "500"), Check.rings(24, "1"), 24, 0);
        // Three pairs evened to 150 100 50 in one, and all to 200, or all to 0, by rings without a pair in the other.
        correlationAtShift0("- - 3 1 - - - 1 1 - - - 1 3 -", Check.rings(3, "1 1 500 - -"), 0);
        correlationAtShift0("- - 3 1 - - - 1 1 - - - 1 3 -", Check.rings(3, "500 500 1 - -"), 0);
        // c is 0, u and v are not: evened 50 100 150 and 75 150 75.
        correlation("1 2 3", "1 2 1", 3, 0);
    }

    /** Many rows of three rings, by the sentence's own products, so that every t from -100 to 100 is due somewhere. */
    private static void allCorrelations() {
        boolean[] seen = new boolean[201];
        for (int i = 0; i < 729; i++) {
            String a = threeRings(i);
            for (int j = i; j < 729; j += 11) {
                RingMatches x = Check.with(a, threeRings(j));
                x.match(0, 1, 3);
                int got = x.overlap(0, 2);
                seen[100 + got] = true;
                long c = spread(x, 0, 1);
                long both = spread(x, 0, 0) * spread(x, 1, 1);
                long t = Math.abs(got);
                boolean due = both == 0 ? got == 0
                        : t * t * both <= 10000 * c * c && (t + 1) * (t + 1) * both > 10000 * c * c && got * c >= 0;
                Check.same("correlation " + got + " of " + a + " / " + threeRings(j) + " is due", due, true);
            }
        }
        for (int t = -100; t <= 100; t++) {
            Check.same("a correlation of " + t + " was seen", seen[100 + t], true);
        }
    }

    private static String threeRings(int number) {
        return (1 + number % 9) + " " + (1 + number / 9 % 9) + " " + (1 + number / 81);
    }

    /** n sum(x y) - sum(x) sum(y) of two series of three rings. */
    private static long spread(RingMatches x, int a, int b) {
        long products = 0;
        long ofA = 0;
        long ofB = 0;
        for (int k = 0; k < 3; k++) {
            products += x.evened(a, k) * x.evened(b, k);
            ofA += x.evened(a, k);
            ofB += x.evened(b, k);
        }
        return 3 * products - ofA * ofB;
    }

    private static void correlationAtShift0(String a, String b, int want) {
        RingMatches x = Check.with(a, b);
        int found = 0;
        for (int order = 0; order < 2; order++) {
            x.match(order, 1 - order, 3);
            for (int k = 0; k < x.count(2); k++) {
                if (x.overlap(k, 0) == 0) {
                    found++;
                    Check.due("n of " + a + " / " + b, x.overlap(k, 1), 3);
                    Check.due("correlation of " + a + " / " + b, x.overlap(k, 2), want);
                }
            }
        }
        Check.due("overlaps at shift 0", found, 2);
    }

    private static void correlationOfGreatNumbers() {
        says("t t u v is not above 10000 c c");
        RingMatches x = Check.with(PEAKS, Check.rings(8, "500 1 1"));
        Check.due("24 pairs", x.match(0, 0, 24), 1);
        Check.due("evened", x.evened(0, 1), 200);
        Check.due("evened", x.evened(0, 2), 0);
        Check.due("of itself", x.overlap(0, 2), 100);
        Check.due("24 pairs", x.match(0, 1, 24), 1);
        // c is -2560000, u and v are 5120000.
        Check.due("of one aside", x.overlap(0, 2), -50);
        Check.due("a shift of one", x.match(0, 1, 23), 3);
        // 8 of 23 are 200 in both of them.
        Check.due("its shift", x.overlap(0, 0), 1);
        Check.due("its correlation", x.overlap(0, 2), 100);
    }

    private static void agreement(String a, String b, int n, String want) {
        RingMatches x = laid(a, b, n);
        Check.same("agreement of " + a + " / " + b, x.agree(0, 0) + "/" + x.agree(0, 1), want);
    }

    private static void agreement() {
        says("AGREEMENT, of each two places of it next to each other that both are pairs:");
        // r is 1 with a pair aside; a missing ring of either parts both.
        agreement("1 2 - 3", "1 2 - 3", 3, "1/1");
        agreement("1 2 - 3 4", "1 2 - 4 3", 4, "1/2");
        agreement("1 2 9 3 4", "1 2 - 4 3", 4, "1/2");
        agreement("1 2 - 3 4", "1 2 9 4 3", 4, "1/2");
        says("2 if both widths rise, or both fall, or both stay; 1 if just one stays; else 0:");
        String[] kinds = {"2 3 - 9", "2 2 - 9", "2 1 - 9"};
        String[][] want = {{"1/1", "1/2", "0/1"}, {"1/2", "1/1", "1/2"}, {"0/1", "1/2", "1/1"}};
        for (int a = 0; a < 3; a++) {
            for (int b = 0; b < 3; b++) {
                agreement(kinds[a], kinds[b], 3, want[a][b]);
            }
        }
        agreement("499 500 - 1", "1 2 - 500", 3, "1/1");
        agreement("500 499 - 1", "500 1 - 1", 3, "1/1");
        agreement("500 500 - 1", "1 1 - 1", 3, "1/1");
        // 10 and 11 rise, though evened they fall, 40 and 24.
        agreement("1 1 1 10 11 100 100", "1 2 3 4 5 6 7", 7, "3/4");
        says("these added, of twice as many as there are such places, as a fraction that cannot be lessened");
        String longest = Check.rising(24);
        agreement(longest, longest, 24, "1/1");
        agreement(longest, Check.rising(23) + " 23", 24, "45/46");
        agreement(longest, Check.rising(23) + " 22", 24, "22/23");
        agreement(longest, Check.rings(24, "5"), 24, "1/2");
        agreement(longest, "9 8 " + Check.rings(22, "7"), 24, "21/46");
        agreement("1 2 3 4", "4 3 2 2", 4, "1/6");
        agreement("1 2 3 4", "4 3 3 3", 4, "1/3");
        agreement("1 2 3", "3 2 1", 3, "0/1");
        says("(0 / 1 without any).");
        agreement("1 - 2 - 3", "1 - 2 - 3", 3, "0/1");
        agreement("1 - 2 - 3", "1 2 3 4 5", 3, "0/1");
        agreement("1 2 - 3 - 5", "1 - - 3 4 5", 3, "0/1");
    }

    private static void odds(String a, String b, int n, String want) {
        oddsOf(laid(a, b, n), "odds of " + a + " / " + b, want);
    }

    private static void oddsOf(RingMatches x, String what, String want) {
        Check.same(what, x.odds(0, 0) + "/" + x.odds(0, 1), want);
    }

    private static void odds() {
        says("ODDS of an overlap: let r be how many places next to each other there are,");
        // r is 4, of all places or of those that are pairs, with 9 and with 13 tries.
        odds("1 2 3 4 5", "1 2 3 4 5", 5, "9/16");
        odds("1 2 3 4 5 - -", "1 2 3 4 5 - -", 5, "13/16");
        odds("1 2 3 4 5 - 6", "1 2 3 4 5 - 6", 6, "13/16");
        odds("1 2 3 4 5 9 6", "1 2 3 4 5 - 6", 6, "13/16");
        odds("1 2 3 - 4 5 6", "1 2 3 - 4 5 6", 6, "13/16");
        says("g the sum of agreement halved, rounded up:");
        String nine = Check.rising(9);
        // r is 8, with 17 tries: a sum of 16 and of 15 both make 8, one of 14 and of 13 make 7.
        odds(nine, nine, 9, "17/256");
        odds(nine, Check.rising(8) + " 8", 9, "17/256");
        odds(nine, Check.rising(8) + " 7", 9, "153/256");
        odds(nine, Check.rising(7) + " 7 6", 9, "153/256");
        String longest = Check.rising(24);
        odds(longest, longest, 24, "47/8388608");
        odds(longest, Check.rising(23) + " 23", 24, "47/8388608");
        // 24 ways, 47 tries; then 277 ways.
        odds(longest, Check.rising(23) + " 22", 24, "141/1048576");
        odds(longest, Check.rising(22) + " 21 20", 24, "13019/8388608");
        says("the ways to take g or more of r, of 2 to the power of r, times the TRIES");
        // None needed: all 256 ways. One, a sum of 1 or 2: 255 ways. Both are capped.
        odds(nine, "9 8 7 6 5 4 3 2 1", 9, "1/1");
        odds(nine, "9 8 7 6 5 4 3 2 2", 9, "1/1");
        // No places next to each other: one way of one.
        odds("1 - 2 - 3", "1 - 2 - 3", 3, "1/1");
        says("1 / 1 at most, as a fraction that cannot be lessened.");
        oddsOf(triesOf(15, 0), "255 tries of 256", "255/256");
        oddsOf(triesOf(15, 1), "256 tries of 256", "1/1");
        oddsOf(triesOf(15, 2), "257 tries of 256", "1/1");
        oddsOf(triesOf(14, 2), "240 tries of 256", "15/16");
        oddsOf(triesOf(7, 9), "128 tries of 256", "1/2");
        oddsOf(triesOf(7, 8), "127 tries of 256", "127/256");
        oddsOf(triesOf(30, 2), "512 tries of 256", "1/1");
    }

    /** A list of an overlap with r 8 and g 8, of so many matches of 17 tries, and others of one. */
    private static RingMatches triesOf(int matches, int single) {
        RingMatches x = Check.with(Check.rising(9), "1");
        for (int i = 0; i < single; i++) {
            x.match(1, 1, 3);
        }
        for (int i = 0; i < matches; i++) {
            x.match(0, 0, 9);
        }
        Check.due("tries", x.count(3), 17 * matches + single);
        return x;
    }

    private static void oddsOfGreatNumbers() {
        says("1 / 1 at most");
        // 12 rises of 23: 2 to the power of 22 ways; with 1024 tries 2 to that of 32, which is 0 in an int.
        RingMatches x = Check.with(Check.rising(24), Check.rings(12, "1 2"), "1");
        for (int i = 0; i < 37; i++) {
            x.match(2, 2, 3);
        }
        for (int i = 0; i < 21; i++) {
            x.match(0, 1, 24);
            oddsOf(x, "odds with " + x.count(3) + " tries", "1/1");
        }
        Check.due("tries", x.count(3), 1024);
        Check.same("its agreement", x.agree(0, 0) + "/" + x.agree(0, 1), "12/23");
    }

    private static void tries() {
        says("(overlaps that were ever listed or left out for their n, by match()),");
        RingMatches x = Check.with("1 2 3", "-", Check.rings(24, "4"), "5");
        Check.due("listed and left out", x.match(0, 0, 3), 1);
        Check.due("tries", x.count(3), 5);
        Check.due("left out alone", x.match(0, 0, 4), 0);
        Check.due("tries", x.count(3), 10);
        Check.due("without pairs", x.match(1, 1, 3), 0);
        Check.due("tries", x.count(3), 11);
        Check.due("many", x.match(2, 2, 3), 43);
        Check.due("tries", x.count(3), 58);
        Check.due("one ring on 24", x.match(3, 2, 24), 0);
        Check.due("tries", x.count(3), 82);
        Check.due("24 on one ring", x.match(2, 3, 3), 0);
        Check.due("tries", x.count(3), 106);
        x.absent(0, 0, 0);
        x.group(0, 3, 0);
        x.core(0, 0, 0);
        x.core(0, 0, 99);
        Check.readText(x, "1 2 3");
        Check.badArgument("least of 2", () -> x.match(0, 0, 2));
        Check.noIndex("no series", () -> x.match(0, 7, 3));
        Check.due("other calls and refused ones try nothing", x.count(3), 106);
    }
}
