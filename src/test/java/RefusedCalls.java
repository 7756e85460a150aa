import java.util.function.Supplier;
import java.util.function.ToLongFunction;

/**
 * The terms' "EXCEPTIONS": calls that are refused, each on an object whose twin, made by the same calls, is not asked
 * for it. Both must tell the same story then, of all that can be seen and of what they answer later.
 */
final class RefusedCalls {
    private static final String NO_INDEX = "throws.IndexOutOfBoundsException";
    private static final String BAD_ARGUMENT = "throws.IllegalArgumentException";
    private static final String BAD_STATE = "throws.IllegalStateException";

    private final String name;
    private final Supplier<RingMatches> maker;

    private RefusedCalls(String name, Supplier<RingMatches> maker) {
        this.name = name;
        this.maker = maker;
    }

    static void check() {
        RefusedCalls[] all = {
            new RefusedCalls("a new object", RingMatches::new),
            new RefusedCalls("some of all", RefusedCalls::someOfAll),
            new RefusedCalls("all that fits", RefusedCalls::full),
        };
        for (RefusedCalls one : all) {
            one.indexes();
            one.arguments();
            one.states();
        }
        storiesTell();
    }

    private static RingMatches someOfAll() {
        RingMatches x = Check.with("1 2 3 4 9", Check.rings(24, "7"), "2 4 - 8 5");
        x.match(0, 1, 24);
        x.match(0, 2, 3);
        Check.type(x, "7 8");
        return x;
    }

    private static RingMatches full() {
        RingMatches x = Check.with("1 2 3 4 9", Check.rings(24, "7"), "2 4 - 8 5", "1", "-", "2 2 2", "9 9");
        x.core(0, 2, 1);
        x.match(0, 2, 3);
        Check.type(x, "12 ".repeat(33) + "5");
        return x;
    }

    private void refused(String call, String exception, ToLongFunction<RingMatches> asked) {
        RingMatches x = maker.get();
        RingMatches twin = maker.get();
        String what = name + ": " + call;
        Check.same(what, Check.told(() -> asked.applyAsLong(x)), exception);
        Check.same(what + " again", Check.told(() -> asked.applyAsLong(x)), exception);
        Check.same(what + " changes nothing, all told", story(x), story(twin));
    }

    private void indexes() {
        Check.says("Terms",
                "EXCEPTIONS: IndexOutOfBoundsException: there is no such series, ring, overlap, sign, what.");
        int series = maker.get().count(1);
        for (int none : Check.andEndsOfInt(-1, series, 8)) {
            refused("width(" + none + ", -1)", NO_INDEX, x -> x.width(none, -1));
            refused("written(" + none + ", -1)", NO_INDEX, x -> x.written(none, -1));
            refused("evened(" + none + ", 0)", NO_INDEX, x -> x.evened(none, 0));
            refused("match(" + none + ", 0, 3)", NO_INDEX, x -> x.match(none, 0, 3));
            refused("match(0, " + none + ", 3)", NO_INDEX, x -> x.match(0, none, 3));
            refused("absent(" + none + ", 0, 0)", NO_INDEX, x -> x.absent(none, 0, 0));
            refused("absent(0, " + none + ", 0)", NO_INDEX, x -> x.absent(0, none, 0));
            refused("core(" + none + ", 0, 0)", NO_INDEX, x -> x.core(none, 0, 0));
            refused("core(0, " + none + ", 0)", NO_INDEX, x -> x.core(0, none, 0));
            refused("group(" + none + ", 3, 0)", NO_INDEX, x -> x.group(none, 3, 0));
        }
        int rings = series == 0 ? 0 : maker.get().width(0, -1);
        int signs = series == 0 ? 0 : maker.get().written(0, -1);
        for (int none : Check.andEndsOfInt(-2, Math.max(rings, signs))) {
            refused("width(0, " + none + ")", NO_INDEX, x -> x.width(0, none));
            refused("written(0, " + none + ")", NO_INDEX, x -> x.written(0, none));
            refused("evened(0, " + none + ")", NO_INDEX, x -> x.evened(0, none));
        }
        refused("width(0, " + rings + ")", NO_INDEX, x -> x.width(0, rings));
        refused("evened(0, " + rings + ")", NO_INDEX, x -> x.evened(0, rings));
        refused("evened(0, -1)", NO_INDEX, x -> x.evened(0, -1));
        int overlaps = maker.get().count(2);
        for (int none : Check.andEndsOfInt(-1, overlaps, 47)) {
            refused("overlap(" + none + ", 0)", NO_INDEX, x -> x.overlap(none, 0));
            refused("agree(" + none + ", 0)", NO_INDEX, x -> x.agree(none, 0));
            refused("odds(" + none + ", 0)", NO_INDEX, x -> x.odds(none, 0));
        }
        for (int none : Check.andEndsOfInt(-1, 4)) {
            refused("count(" + none + ")", NO_INDEX, x -> x.count(none));
            refused("overlap(0, " + none + ")", NO_INDEX, x -> x.overlap(0, none));
            refused("agree(0, " + none + ")", NO_INDEX, x -> x.agree(0, none));
            refused("odds(0, " + none + ")", NO_INDEX, x -> x.odds(0, none));
        }
        refused("overlap(0, 3)", NO_INDEX, x -> x.overlap(0, 3));
        refused("agree(0, 2)", NO_INDEX, x -> x.agree(0, 2));
        refused("odds(0, 2)", NO_INDEX, x -> x.odds(0, 2));
    }

    /** Where there are no series, those are what a call misses first. */
    private void arguments() {
        Check.says("Terms", "IllegalArgumentException, then IllegalStateException, as told.");
        int series = maker.get().count(1);
        String ifAny = series == 0 ? NO_INDEX : BAD_ARGUMENT;
        for (int bad : Check.andEndsOfInt(2, 25)) {
            refused("match(0, 0, " + bad + ")", ifAny, x -> x.match(0, 0, bad));
            refused("match(0, 8, " + bad + ")", NO_INDEX, x -> x.match(0, 8, bad));
            refused("match(-1, 0, " + bad + ")", NO_INDEX, x -> x.match(-1, 0, bad));
            refused("group(0, " + bad + ", 0)", ifAny, x -> x.group(0, bad, 0));
            refused("group(8, " + bad + ", 0)", NO_INDEX, x -> x.group(8, bad, 0));
        }
        for (int bad : Check.andEndsOfInt(-25, 25)) {
            refused("absent(0, 0, " + bad + ")", ifAny, x -> x.absent(0, 0, bad));
            refused("absent(8, 0, " + bad + ")", NO_INDEX, x -> x.absent(8, 0, bad));
            refused("absent(0, -1, " + bad + ")", NO_INDEX, x -> x.absent(0, -1, bad));
            refused("absent(0, 1, " + bad + ")", ifAny, x -> x.absent(0, 1, bad));
            refused("absent(8, 1, " + bad + ")", NO_INDEX, x -> x.absent(8, 1, bad));
        }
        refused("absent(0, 1, 0)", ifAny, x -> x.absent(0, 1, 0));
        // The signs ahead of the one that is none do not come on the pad, nor do those behind it.
        for (int bad : new int[] {1, 31, 127, 255}) {
            for (int place = 0; place < 4; place++) {
                int packed = 0x31323334 & ~(255 << 8 * place) | bad << 8 * place;
                refused("unit(" + packed + ", 0)", BAD_ARGUMENT, x -> x.unit(packed, 0));
                refused("unit(0x31323334, " + packed + ")", BAD_ARGUMENT, x -> x.unit(0x31323334, packed));
            }
        }
    }

    private void states() {
        Check.says("Terms", "Such a call changes nothing.");
        if (maker.get().count(1) == 8) {
            refused("read()", BAD_STATE, RingMatches::read);
            refused("core(0, 0, 0)", BAD_STATE, x -> x.core(0, 0, 0));
            refused("core(0, 0, 99)", BAD_STATE, x -> x.core(0, 0, 99));
            refused("core(1, 1, 20)", BAD_STATE, x -> x.core(1, 1, 20));
            refused("core(8, 0, 0)", NO_INDEX, x -> x.core(8, 0, 0));
            refused("core(0, -1, 0)", NO_INDEX, x -> x.core(0, -1, 0));
            refused("unit(' ', 0)", BAD_STATE, x -> x.unit(' ', 0));
            refused("unit(0, '1')", BAD_STATE, x -> x.unit(0, '1'));
            refused("unit of eight", BAD_STATE, x -> x.unit(0x31323334, 0x31323334));
            refused("unit(' ', 127)", BAD_ARGUMENT, x -> x.unit(' ', 127));
        }
        // Some of the signs would still fit.
        for (int more = 1; more < 8; more++) {
            int room = more;
            RefusedCalls almost = new RefusedCalls(name + " with room for " + room, () -> withRoomFor(room));
            almost.refused("unit of eight", BAD_STATE, x -> x.unit(0x31203320, 0x31203320));
            almost.refused("unit of eight, one of them none", BAD_ARGUMENT, x -> x.unit(0x31203320, 0x7f203320));
        }
    }

    private RingMatches withRoomFor(int room) {
        RingMatches x = maker.get();
        if (x.count(1) < 8) {
            x.read();
        }
        // A full pad has been filled by the maker; another one holds a text with much behind it.
        String text = "1 2 3 " + "4".repeat(94 - room);
        if (x.count(0) == 0) {
            Check.type(x, text);
        }
        return x;
    }

    /** All that can be asked, then what a life from there on answers: in all some 300 calls. */
    private static String story(RingMatches x) {
        StringBuilder told = new StringBuilder();
        tellAll(x, told);
        for (int i = 0; i < 2; i++) {
            tell(told, "unit", () -> x.unit(' ', '3'));
            tell(told, "read", x::read);
            tell(told, "core", () -> x.core(0, 0, 0));
            tell(told, "group", () -> x.group(2, 3, 50));
            tell(told, "absent", () -> x.absent(0, 2, 0));
        }
        tell(told, "match", () -> x.match(0, 0, 3));
        tellAll(x, told);
        return told.toString();
    }

    private static void tellAll(RingMatches x, StringBuilder told) {
        for (int what = 0; what < 4; what++) {
            int asked = what;
            tell(told, "count", () -> x.count(asked));
        }
        int many = x.count(1);
        for (int i = 0; i < many; i++) {
            told.append(" text ").append(i == 1 ? "of 24" : Check.textOf(x, i));
            int series = i;
            int rings = x.width(i, -1);
            for (int k = 0; k < rings; k++) {
                int ring = k;
                tell(told, "evened", () -> x.evened(series, ring));
            }
        }
        for (int k = 0; k < x.count(2); k++) {
            int of = k;
            for (int what = 0; what < 3; what++) {
                int asked = what;
                tell(told, "overlap", () -> x.overlap(of, asked));
            }
            tell(told, "agree", () -> x.agree(of, 0));
            tell(told, "odds", () -> x.odds(of, 0));
            tell(told, "odds below", () -> x.odds(of, 1));
        }
    }

    private static void tell(StringBuilder told, String what, Check.Call call) {
        told.append(' ').append(what).append(' ').append(Check.told(call));
    }

    /** A story would tell of one sign, series, try or list more. */
    private static void storiesTell() {
        String plain = story(someOfAll());
        Check.same("the same again", story(someOfAll()), plain);
        RingMatches x = someOfAll();
        x.unit(' ', 0);
        Check.same("a sign more is told", story(x).equals(plain), false);
        RingMatches y = someOfAll();
        y.match(0, 2, 3);
        Check.same("a try more is told", story(y).equals(plain), false);
        RingMatches z = someOfAll();
        z.core(0, 0, 0);
        Check.same("a series more is told", story(z).equals(plain), false);
        RingMatches w = someOfAll();
        w.read();
        w.unit('7' | ' ' << 8 | '9' << 16, 0);
        Check.same("another sign is told", story(w).equals(plain), false);
    }
}
