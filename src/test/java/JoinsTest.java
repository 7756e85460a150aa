/** Promises 11 to 13: a ring put in, cores joined, groups. */
public final class JoinsTest {
    public static void main(String[] args) {
        absentFinds();
        absentFindsNone();
        absentRefuses();
        coreJoins();
        coreJoinsNone();
        coreRefuses();
        groups();
        groupRefuses();
        Check.end();
    }

    private static void absentFinds() {
        // b is a without one of three missing rings, 3 to 5: put in at any of them it is a again.
        RingMatches x = Check.with("1 5 8 - - - 9 - 4 2", "1 5 8 - - 9 - 4 2", "5 5 5", "1 2 3", "1 2 3 4 5");
        Check.due("the lowest of the greatest", x.absent(0, 1, 0), 3);
        // Evened alike all have 0: the lowest place with three pairs.
        Check.due("all equal", x.absent(4, 2, 0), 0);
        Check.due("three pairs with the last alone", x.absent(3, 2, 0), 3);
        Check.due("three pairs with the first alone", x.absent(3, 2, -1), 0);
        Check.due("put in ahead", x.absent(3, 3, -1), 0);
        Check.due("put in behind", x.absent(3, 3, 0), 3);
        Check.due("changes no series", x.count(1), 5);
        Check.due("changes no tries", x.count(3), 0);
        Check.same("b stays", Check.textOf(x, 1), "1 5 8 - - 9 - 4 2");
        threePairsBeforeTwo();
    }

    /** p = 0 has two pairs of correlation 100, p = 3 three of 50: only those with three count. */
    private static void threePairsBeforeTwo() {
        RingMatches x = Check.with("1 2 3", "1 3 2");
        Check.due("three pairs go ahead of two", x.absent(0, 1, 0), 3);
    }

    private static void absentFindsNone() {
        RingMatches x = Check.with("1 2", "1 2 3", "- - - -", Check.rings(24, "9"));
        Check.due("two rings", x.absent(0, 1, 0), -1);
        Check.due("missing ones", x.absent(1, 2, 0), -1);
        Check.due("two in common", x.absent(1, 1, 1), -1);
        Check.due("nothing in common", x.absent(1, 1, 24), -1);
        Check.due("nothing in common below", x.absent(1, 1, -24), -1);
        Check.due("three of 24, at the end", x.absent(3, 1, 21), 3);
        Check.due("four places of 24", x.absent(3, 1, 20), 0);
    }

    private static void absentRefuses() {
        RingMatches x = Check.with("1 2 3", Check.rings(24, "9"), Check.rings(23, "9"));
        Check.badArgument("24 rings", () -> x.absent(0, 1, 0));
        Check.due("23 rings", x.absent(0, 2, 0), 3);
        int[] bad = {-25, 25, Integer.MIN_VALUE, Integer.MAX_VALUE};
        for (int shift : bad) {
            Check.badArgument("absent(0, 0, " + shift + ")", () -> x.absent(0, 0, shift));
            Check.noIndex("absent(3, 1, " + shift + ")", () -> x.absent(3, 1, shift));
            Check.noIndex("absent(0, 3, " + shift + ")", () -> x.absent(0, 3, shift));
        }
        Check.noIndex("absent(-1, 0, 0)", () -> x.absent(-1, 0, 0));
        Check.noIndex("absent(0, -1, 0)", () -> x.absent(0, -1, 0));
    }

    private static void joined(String a, String b, int shift, String want) {
        RingMatches x = Check.with(a, b);
        x.unit('7', 0);
        Check.due("core of " + a + " / " + b + " at " + shift, x.core(0, 1, shift), 2);
        Check.same("its text", Check.textOf(x, 2), want);
        Check.due("its series", x.count(1), 3);
        Check.due("the pad stays", x.count(0), 1);
        Check.same("a stays", Check.textOf(x, 0), a);
        Check.same("b stays", Check.textOf(x, 1), b);
    }

    private static void coreJoins() {
        joined("10 20 -", "5 - 7", 1, "10 13 - 7");
        joined("10 20 -", "5 - 7", -1, "5 10 14 -");
        joined("10 20 -", "5 - 7", 0, "8 20 7");
        joined("10 20 -", "5 - 7", 2, "10 20 5 - 7");
        joined("10 20 -", "5 - 7", -2, "5 - 9 20 -");
        joined("1 2 3 4", "9", 1, "1 6 3 4");
        joined("9", "1 2 3 4", -1, "1 6 3 4");
        joined("500", "500", 0, "500");
        joined("-", "-", 0, "-");
        RingMatches x = Check.with("10 20 -", "5 - 7");
        x.core(0, 1, 1);
        Check.due("a core is evened", x.evened(2, 3), 70);
        Check.due("a core of a core", x.core(2, 2, 3), 3);
        Check.same("its text", Check.textOf(x, 3), "10 13 - 9 13 - 7");
        Check.due("a text behind cores", Check.readText(x, "3"), 4);
    }

    private static void coreJoinsNone() {
        RingMatches x = Check.with(Check.rings(20, "9"), "1 2 3", Check.rings(13, "1"), Check.rings(12, "3"));
        int[] apart = {3, -3, 4, -4, 24, -24, Integer.MIN_VALUE, Integer.MAX_VALUE};
        for (int shift : apart) {
            Check.due("core(1, 1, " + shift + ")", x.core(1, 1, shift), -1);
        }
        Check.due("25 rings", x.core(0, 0, 5), -1);
        Check.due("25 rings ahead", x.core(0, 0, -5), -1);
        Check.due("side by side", x.core(2, 3, 13), -1);
        Check.due("no series made", x.count(1), 4);
        Check.due("24 rings", x.core(0, 0, 4), 4);
        Check.due("24 rings ahead", x.core(0, 0, -4), 5);
        Check.due("one in common", x.core(2, 3, 12), 6);
        Check.due("its rings", x.width(6, -1), 24);
        Check.due("the one in common", x.width(6, 12), 2);
    }

    private static void coreRefuses() {
        RingMatches x = Check.with("1", "2", "3", "4", "5", "6", "7");
        Check.noIndex("core(7, 0, 0)", () -> x.core(7, 0, 0));
        Check.noIndex("core(0, -1, 0)", () -> x.core(0, -1, 0));
        Check.due("the eighth", x.core(6, 5, 0), 7);
        Check.badState("the ninth", () -> x.core(0, 0, 0));
        Check.badState("the ninth, of none in common", () -> x.core(0, 0, 9));
        Check.noIndex("core(8, 0, 0)", () -> x.core(8, 0, 0));
        Check.noIndex("core(0, 8, 0)", () -> x.core(0, 8, 0));
        Check.due("eight series", x.count(1), 8);
        Check.due("its ring", x.width(7, 0), 7);
    }

    private static void groups() {
        // 0 and 1 are joined by 2 alone, which has both of them in it; 3 has two pairs at most.
        RingMatches x = Check.with("3 2 1", "1 2 3", "1 2 3 - - 3 2 1", "1 2", "1 2 3");
        int[] want = {0, 0, 0, 3, 0};
        for (int i = 0; i < want.length; i++) {
            Check.due("group(" + i + ", 3, 100)", x.group(i, 3, 100), want[i]);
            Check.due("group(" + i + ", 3, 101)", x.group(i, 3, 101), i);
            Check.due("group(" + i + ", 4, -100)", x.group(i, 4, -100), i);
            Check.due("group(" + i + ", 3, least of all)", x.group(i, 3, Integer.MIN_VALUE), want[i]);
            Check.due("group(" + i + ", 3, greatest of all)", x.group(i, 3, Integer.MAX_VALUE), i);
        }
        RingMatches y = Check.with("3 2 1", "1 2 3", "1 3 2");
        Check.due("joined at 50", y.group(2, 3, 50), 1);
        Check.due("not at 51", y.group(2, 3, 51), 2);
        Check.due("apart from 0", y.group(1, 3, 50), 1);
        Check.due("joined at -50", y.group(1, 3, -50), 0);
        Check.due("not at -49", y.group(1, 3, -49), 1);
    }

    private static void groupRefuses() {
        RingMatches x = Check.with("1 2 3", "3 2 1");
        int[] bad = {2, 25, 0, Integer.MIN_VALUE, Integer.MAX_VALUE};
        for (int least : bad) {
            Check.badArgument("group(0, " + least + ", 0)", () -> x.group(0, least, 0));
            Check.noIndex("group(2, " + least + ", 0)", () -> x.group(2, least, 0));
        }
        Check.noIndex("group(-1, 3, 0)", () -> x.group(-1, 3, 0));
        Check.due("least of 24", x.group(1, 24, -100), 1);
        Check.due("no tries", x.count(3), 0);
    }
}
