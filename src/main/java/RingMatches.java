/**
 * Tree rings: series of widths, laid on one another at every shift and compared.
 *
 * All rows are made once, by the constructor, and used again by every call.
 */
public final class RingMatches {
    public static final int NONE = -1;

    private static final int MOST_SERIES = 8;
    private static final int MOST_RINGS = 24;
    private static final int MOST_WIDTH = 500;
    private static final int MOST_SIGNS = 100;
    private static final int MOST_SHIFTS = 2 * MOST_RINGS - 1;
    private static final int FEWEST_PAIRS = 3;

    private final Pad pad;
    private final Series[] kept;
    private int keptCount;
    private final Overlap[] listed;
    private int listedCount;
    private int tries;

    private final Series stretched;
    private final Overlap probe;
    private final boolean[] member;
    private final boolean[] asked;

    public RingMatches() {
        pad = new Pad();
        kept = new Series[MOST_SERIES];
        for (int i = 0; i < kept.length; i++) {
            kept[i] = new Series();
        }
        listed = new Overlap[MOST_SHIFTS];
        for (int i = 0; i < listed.length; i++) {
            listed[i] = new Overlap();
        }
        stretched = new Series();
        probe = new Overlap();
        member = new boolean[MOST_SERIES];
        asked = new boolean[MOST_SERIES];
    }

    public int unit(int a, int b) throws IllegalArgumentException, IllegalStateException {
        if (!Pad.takes(a) || !Pad.takes(b)) {
            throw new IllegalArgumentException("a sign is not 32 .. 126");
        }
        if (pad.size + Pad.signsIn(a) + Pad.signsIn(b) > MOST_SIGNS) {
            throw new IllegalStateException("the pad would have more than 100 signs");
        }
        pad.put(a);
        pad.put(b);
        return pad.size;
    }

    public int read() throws IllegalStateException {
        if (keptCount >= MOST_SERIES) {
            throw new IllegalStateException("there are eight series");
        }
        int wrong = pad.parseInto(kept[keptCount]);
        pad.size = 0;
        return wrong == NONE ? keepNext() : -1 - wrong;
    }

    public int width(int series, int k) throws IndexOutOfBoundsException {
        Series of = seriesAt(series);
        if (k == -1) {
            return of.size;
        }
        if (!of.has(k)) {
            throw new IndexOutOfBoundsException("no such ring");
        }
        return of.widthAt(k);
    }

    public int written(int series, int i) throws IndexOutOfBoundsException {
        Series of = seriesAt(series);
        int length = of.textLength();
        if (i == -1) {
            return length;
        }
        if (i < 0 || i >= length) {
            throw new IndexOutOfBoundsException("no such sign");
        }
        return of.textSign(i);
    }

    public int evened(int series, int k) throws IndexOutOfBoundsException {
        Series of = seriesAt(series);
        if (!of.has(k)) {
            throw new IndexOutOfBoundsException("no such ring");
        }
        return of.evenAt(k);
    }

    public int match(int a, int b, int least) throws IndexOutOfBoundsException, IllegalArgumentException {
        Series first = seriesAt(a);
        Series second = seriesAt(b);
        requireLeast(least);
        listedCount = 0;
        for (int shift = 1 - second.size; shift < first.size && listedCount < listed.length; shift++) {
            tries++;
            Overlap newest = listed[listedCount];
            newest.lay(first, second, shift);
            if (newest.pairs >= least) {
                newest.compareRises(first, second);
                rankNewest();
            }
        }
        return listedCount;
    }

    public int overlap(int k, int what) throws IndexOutOfBoundsException {
        Overlap of = overlapAt(k);
        switch (what) {
            case 0:
                return of.shift;
            case 1:
                return of.pairs;
            case 2:
                return of.correlation;
            default:
                throw new IndexOutOfBoundsException("no such what");
        }
    }

    public int agree(int k, int part) throws IndexOutOfBoundsException {
        Overlap of = overlapAt(k);
        requirePart(part);
        int below = of.steps == 0 ? 1 : 2 * of.steps;
        return (int) lessened(of.agreement, below, part);
    }

    public long odds(int k, int part) throws IndexOutOfBoundsException {
        Overlap of = overlapAt(k);
        requirePart(part);
        long above = waysToTake((of.agreement + 1) / 2, of.steps) * tries;
        long below = 1L << of.steps;
        if (above >= below) {
            return 1;
        }
        return lessened(above, below, part);
    }

    public int absent(int a, int b, int shift) throws IndexOutOfBoundsException, IllegalArgumentException {
        Series first = seriesAt(a);
        Series second = seriesAt(b);
        if (second.size >= MOST_RINGS) {
            throw new IllegalArgumentException("the series has 24 rings");
        }
        if (shift < -MOST_RINGS || shift > MOST_RINGS) {
            throw new IllegalArgumentException("the shift is not -24 .. 24");
        }
        int best = NONE;
        int greatest = 0;
        for (int p = 0; p <= second.size; p++) {
            stretched.copyWithGap(second, p);
            probe.lay(first, stretched, shift);
            if (probe.pairs >= FEWEST_PAIRS && (best == NONE || probe.correlation > greatest)) {
                best = p;
                greatest = probe.correlation;
            }
        }
        return best;
    }

    public int core(int a, int b, int shift) throws IndexOutOfBoundsException, IllegalStateException {
        Series first = seriesAt(a);
        Series second = seriesAt(b);
        if (keptCount >= MOST_SERIES) {
            throw new IllegalStateException("there are eight series");
        }
        // Comes before any sum with the shift, which could wrap around.
        if (shift <= -second.size || shift >= first.size) {
            return NONE;
        }
        int from = Math.min(0, shift);
        int end = Math.max(first.size, second.size + shift);
        if (end - from > MOST_RINGS) {
            return NONE;
        }
        Series joined = kept[keptCount];
        joined.size = 0;
        for (int place = from; place < end; place++) {
            joined.add(mean(first.widthAt(place), second.widthAt(place - shift)));
        }
        joined.makeEven();
        return keepNext();
    }

    public int group(int series, int least, int bound) throws IndexOutOfBoundsException, IllegalArgumentException {
        seriesAt(series);
        requireLeast(least);
        for (int i = 0; i < MOST_SERIES; i++) {
            member[i] = i == series;
            asked[i] = false;
        }
        for (int round = 0; round < keptCount; round++) {
            int next = memberNotAsked();
            if (next == NONE) {
                break;
            }
            asked[next] = true;
            addJoinedTo(next, least, bound);
        }
        return leastMember();
    }

    public int count(int what) throws IndexOutOfBoundsException {
        switch (what) {
            case 0:
                return pad.size;
            case 1:
                return keptCount;
            case 2:
                return listedCount;
            case 3:
                return tries;
            default:
                throw new IndexOutOfBoundsException("no such what");
        }
    }

    private Series seriesAt(int number) {
        if (number < 0 || number >= keptCount) {
            throw new IndexOutOfBoundsException("no such series");
        }
        return kept[number];
    }

    private Overlap overlapAt(int k) {
        if (k < 0 || k >= listedCount) {
            throw new IndexOutOfBoundsException("no such overlap");
        }
        return listed[k];
    }

    private static void requireLeast(int least) {
        if (least < FEWEST_PAIRS || least > MOST_RINGS) {
            throw new IllegalArgumentException("least is not 3 .. 24");
        }
    }

    private static void requirePart(int part) {
        if (part != 0 && part != 1) {
            throw new IndexOutOfBoundsException("no such part");
        }
    }

    /** The series behind the kept ones has been filled: from now on it is kept too. */
    private int keepNext() {
        int number = keptCount;
        keptCount++;
        return number;
    }

    /** Shifts come from low to high, so of equal overlaps the lower shift stays ahead. */
    private void rankNewest() {
        int k = listedCount;
        Overlap newest = listed[k];
        while (k > 0 && newest.outranks(listed[k - 1])) {
            listed[k] = listed[k - 1];
            k--;
        }
        listed[k] = newest;
        listedCount++;
    }

    private int memberNotAsked() {
        for (int i = 0; i < keptCount; i++) {
            if (member[i] && !asked[i]) {
                return i;
            }
        }
        return NONE;
    }

    private void addJoinedTo(int number, int least, int bound) {
        for (int i = 0; i < keptCount; i++) {
            if (!member[i] && areJoined(kept[number], kept[i], least, bound)) {
                member[i] = true;
            }
        }
    }

    private boolean areJoined(Series first, Series second, int least, int bound) {
        for (int shift = 1 - second.size; shift < first.size; shift++) {
            probe.lay(first, second, shift);
            if (probe.pairs >= least && probe.correlation >= bound) {
                return true;
            }
        }
        return false;
    }

    private int leastMember() {
        for (int i = 0; i < keptCount; i++) {
            if (member[i]) {
                return i;
            }
        }
        return NONE;
    }

    private static int mean(int x, int y) {
        if (x == NONE) {
            return y;
        }
        if (y == NONE) {
            return x;
        }
        return (x + y + 1) / 2;
    }

    private static long waysToTake(int fewest, int of) {
        long ways = 0;
        long exactly = 1;
        for (int i = 0; i <= of; i++) {
            if (i >= fewest) {
                ways += exactly;
            }
            exactly = exactly * (of - i) / (i + 1);
        }
        return ways;
    }

    /** Above (part 0) or below (part 1) of a fraction that is divided by all that both have in common. */
    private static long lessened(long above, long below, int part) {
        long divisor = greatestDivisor(above, below);
        return (part == 0 ? above : below) / divisor;
    }

    private static long greatestDivisor(long x, long y) {
        long greater = x;
        long smaller = y;
        // Two steps halve the numbers at least, so a long never needs 200.
        for (int step = 0; step < 200 && smaller != 0; step++) {
            long rest = greater % smaller;
            greater = smaller;
            smaller = rest;
        }
        return greater == 0 ? 1 : greater;
    }

    /** The signs that wait to be read. */
    private static final class Pad {
        private static final int SPACE = 32;
        private static final int LAST_SIGN = 126;
        private static final int SIGNS_OF_AN_INT = 4;
        // What stands of a ring so far, beside a width and NONE for a missing one.
        private static final int NOTHING_YET = 0;
        private static final int WRONG = -2;

        final int[] signs;
        int size;

        Pad() {
            signs = new int[MOST_SIGNS];
        }

        static int signOf(int packed, int place) {
            return (packed >>> (8 * place)) & 255;
        }

        static boolean takes(int packed) {
            for (int place = 0; place < SIGNS_OF_AN_INT; place++) {
                int sign = signOf(packed, place);
                if (sign != 0 && (sign < SPACE || sign > LAST_SIGN)) {
                    return false;
                }
            }
            return true;
        }

        static int signsIn(int packed) {
            int found = 0;
            for (int place = 0; place < SIGNS_OF_AN_INT; place++) {
                if (signOf(packed, place) != 0) {
                    found++;
                }
            }
            return found;
        }

        void put(int packed) {
            for (int place = 0; place < SIGNS_OF_AN_INT; place++) {
                int sign = signOf(packed, place);
                if (sign != 0 && size < signs.length) {
                    signs[size] = sign;
                    size++;
                }
            }
        }

        /** NONE, or the place of the first sign that cannot stand there; the series is of use only with NONE. */
        int parseInto(Series to) {
            to.size = 0;
            int ring = NOTHING_YET;
            for (int place = 0; place < size; place++) {
                if (signs[place] == SPACE && ring != NOTHING_YET && to.size < MOST_RINGS - 1) {
                    to.add(ring);
                    ring = NOTHING_YET;
                } else {
                    ring = grown(ring, signs[place]);
                    if (ring == WRONG) {
                        return place;
                    }
                }
            }
            if (ring == NOTHING_YET) {
                return size;
            }
            to.add(ring);
            to.makeEven();
            return NONE;
        }

        private static int grown(int ring, int sign) {
            if (sign == '-') {
                return ring == NOTHING_YET ? NONE : WRONG;
            }
            if (sign < '0' || sign > '9' || ring == NONE) {
                return WRONG;
            }
            int width = 10 * ring + sign - '0';
            return width >= 1 && width <= MOST_WIDTH ? width : WRONG;
        }
    }

    /** Rings, each with its width and evened, NONE if it is missing. */
    private static final class Series {
        private static final int REACH = 2;
        private static final int MOST_EVENED = 200;

        final int[] widths;
        final int[] evens;
        int size;

        Series() {
            widths = new int[MOST_RINGS];
            evens = new int[MOST_RINGS];
        }

        boolean has(int k) {
            return k >= 0 && k < size;
        }

        int widthAt(int k) {
            return has(k) ? widths[k] : NONE;
        }

        int evenAt(int k) {
            return has(k) ? evens[k] : NONE;
        }

        void add(int width) {
            if (size < widths.length) {
                widths[size] = width;
                size++;
            }
        }

        /** The other one has 23 rings at most, so that one more has room. */
        void copyWithGap(Series other, int gap) {
            size = 0;
            for (int k = 0; k < other.size; k++) {
                if (k == gap) {
                    add(NONE);
                }
                add(other.widthAt(k));
            }
            if (gap == other.size) {
                add(NONE);
            }
            makeEven();
        }

        void makeEven() {
            for (int k = 0; k < size; k++) {
                evens[k] = evenedFromWidths(k);
            }
        }

        private int evenedFromWidths(int k) {
            if (widths[k] == NONE) {
                return NONE;
            }
            int sum = 0;
            int found = 0;
            for (int near = k - REACH; near <= k + REACH; near++) {
                int width = widthAt(near);
                if (width != NONE) {
                    sum += width;
                    found++;
                }
            }
            return sum > 0 ? Math.min(MOST_EVENED, 100 * widths[k] * found / sum) : NONE;
        }

        int textLength() {
            int length = size - 1;
            for (int k = 0; k < size; k++) {
                length += signsFor(widths[k]);
            }
            return length;
        }

        int textSign(int i) {
            int left = i;
            for (int k = 0; k < size; k++) {
                int signs = signsFor(widths[k]);
                if (left < signs) {
                    return signFor(widths[k], signs - 1 - left);
                }
                left -= signs;
                if (left == 0) {
                    return ' ';
                }
                left--;
            }
            return NONE;
        }

        private static int signsFor(int width) {
            if (width < 10) {
                return 1;
            }
            return width < 100 ? 2 : 3;
        }

        private static int signFor(int width, int signsBehind) {
            if (width == NONE) {
                return '-';
            }
            int rest = width;
            for (int i = 0; i < signsBehind; i++) {
                rest = rest / 10;
            }
            return '0' + rest % 10;
        }
    }

    /** Two series laid on one another at a shift, and what was measured of them there. */
    private static final class Overlap {
        int shift;
        int pairs;
        int correlation;
        int steps;
        int agreement;

        Overlap() {
        }

        void lay(Series a, Series b, int at) {
            int n = 0;
            long x = 0;
            long y = 0;
            long xx = 0;
            long yy = 0;
            long xy = 0;
            int end = Math.min(a.size, b.size + at);
            for (int place = Math.max(0, at); place < end; place++) {
                int ofA = a.evenAt(place);
                int ofB = b.evenAt(place - at);
                if (ofA != NONE && ofB != NONE) {
                    n++;
                    x += ofA;
                    y += ofB;
                    xx += ofA * ofA;
                    yy += ofB * ofB;
                    xy += ofA * ofB;
                }
            }
            shift = at;
            pairs = n;
            correlation = hundredths(n * xy - x * y, n * xx - x * x, n * yy - y * y);
        }

        private static int hundredths(long c, long u, long v) {
            if (u == 0 || v == 0) {
                return 0;
            }
            long limit = 10000 * c * c;
            long t = 0;
            // t is 100 at most; with u and v below 6 million all products stay far inside a long.
            for (int bit = 64; bit > 0; bit = bit / 2) {
                long next = t + bit;
                if (next * next * u * v <= limit) {
                    t = next;
                }
            }
            return (int) (c < 0 ? -t : t);
        }

        void compareRises(Series a, Series b) {
            steps = 0;
            agreement = 0;
            int end = Math.min(a.size, b.size + shift);
            for (int place = Math.max(0, shift) + 1; place < end; place++) {
                if (isPair(a, b, place - 1) && isPair(a, b, place)) {
                    steps++;
                    agreement += likeness(rise(a, place), rise(b, place - shift));
                }
            }
        }

        private boolean isPair(Series a, Series b, int place) {
            return a.widthAt(place) != NONE && b.widthAt(place - shift) != NONE;
        }

        /** 1 if a ring is wider than the one ahead of it, -1 if it is narrower, else 0. */
        private static int rise(Series of, int k) {
            int from = of.widthAt(k - 1);
            int to = of.widthAt(k);
            if (to > from) {
                return 1;
            }
            return to < from ? -1 : 0;
        }

        private static int likeness(int rise, int otherRise) {
            if (rise == otherRise) {
                return 2;
            }
            return rise == 0 || otherRise == 0 ? 1 : 0;
        }

        boolean outranks(Overlap other) {
            if (correlation != other.correlation) {
                return correlation > other.correlation;
            }
            return pairs > other.pairs;
        }
    }
}
