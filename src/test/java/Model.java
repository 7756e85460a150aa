import java.math.BigInteger;
import java.util.ArrayList;
import java.util.Comparator;
import java.util.List;

/**
 * The document said a second time, as plainly as the Java library allows:
 * lists, patterns and big numbers, everything worked out anew at every call.
 */
final class Model {
    private static final String RING = "(?:-|[1-9][0-9]?|[1-4][0-9][0-9]|500)";

    private static final class Listed {
        final int shift;
        final int n;
        final int correlation;
        final int sum;
        final int r;

        Listed(int shift, int n, int correlation, int sum, int r) {
            this.shift = shift;
            this.n = n;
            this.correlation = correlation;
            this.sum = sum;
            this.r = r;
        }
    }

    private final StringBuilder pad = new StringBuilder();
    private final List<List<Integer>> all = new ArrayList<>();
    private List<Listed> list = new ArrayList<>();
    private int tries = 0;

    private static void index(boolean holds) {
        if (!holds) {
            throw new IndexOutOfBoundsException();
        }
    }

    private static void argument(boolean holds) {
        if (!holds) {
            throw new IllegalArgumentException();
        }
    }

    private static void state(boolean holds) {
        if (!holds) {
            throw new IllegalStateException();
        }
    }

    private List<Integer> series(int number) {
        index(number >= 0 && number < all.size());
        return all.get(number);
    }

    int unit(int a, int b) {
        StringBuilder more = new StringBuilder();
        long both = (a & 0xffffffffL) | ((long) b << 32);
        for (int i = 0; i < 8; i++) {
            int sign = (int) (both >> (8 * i) & 255);
            argument(sign == 0 || sign >= 32 && sign <= 126);
            if (sign != 0) {
                more.append((char) sign);
            }
        }
        state(pad.length() + more.length() <= 100);
        return pad.append(more).length();
    }

    int read() {
        state(all.size() < 8);
        String text = pad.toString();
        pad.setLength(0);
        for (int end = 1; end <= text.length(); end++) {
            if (!text.substring(0, end).matches("(?:" + RING + " ){0,23}" + RING + "?")) {
                return -end;
            }
        }
        if (!text.matches("(?:" + RING + " ){0,23}" + RING)) {
            return -1 - text.length();
        }
        List<Integer> rings = new ArrayList<>();
        for (String ring : text.split(" ")) {
            rings.add(ring.equals("-") ? null : Integer.valueOf(ring));
        }
        all.add(rings);
        return all.size() - 1;
    }

    int width(int series, int k) {
        List<Integer> of = series(series);
        if (k == -1) {
            return of.size();
        }
        index(k >= 0 && k < of.size());
        return of.get(k) == null ? -1 : of.get(k);
    }

    int written(int series, int i) {
        List<String> parts = new ArrayList<>();
        for (Integer ring : series(series)) {
            parts.add(ring == null ? "-" : ring.toString());
        }
        String text = String.join(" ", parts);
        if (i == -1) {
            return text.length();
        }
        index(i >= 0 && i < text.length());
        return text.charAt(i);
    }

    private static Integer even(List<Integer> of, int k) {
        if (of.get(k) == null) {
            return null;
        }
        List<Integer> near = new ArrayList<>(of.subList(Math.max(0, k - 2), Math.min(of.size(), k + 3)));
        near.removeIf(ring -> ring == null);
        int sum = near.stream().mapToInt(Integer::intValue).sum();
        return Math.min(200, 100 * of.get(k) * near.size() / sum);
    }

    int evened(int series, int k) {
        List<Integer> of = series(series);
        index(k >= 0 && k < of.size());
        Integer even = even(of, k);
        return even == null ? -1 : even;
    }

    private static boolean pair(List<Integer> a, List<Integer> b, int shift, int j) {
        int i = j + shift;
        return j >= 0 && j < b.size() && i >= 0 && i < a.size() && a.get(i) != null && b.get(j) != null;
    }

    private static int pairs(List<Integer> a, List<Integer> b, int shift) {
        int n = 0;
        for (int j = 0; j < b.size(); j++) {
            n += pair(a, b, shift, j) ? 1 : 0;
        }
        return n;
    }

    private static BigInteger big(long x) {
        return BigInteger.valueOf(x);
    }

    private static int correlation(List<Integer> a, List<Integer> b, int shift) {
        List<long[]> points = new ArrayList<>();
        for (int j = 0; j < b.size(); j++) {
            if (pair(a, b, shift, j)) {
                points.add(new long[] {even(a, j + shift), even(b, j)});
            }
        }
        BigInteger c = spread(points, 0, 1);
        BigInteger u = spread(points, 0, 0);
        BigInteger v = spread(points, 1, 1);
        if (u.signum() == 0 || v.signum() == 0) {
            return 0;
        }
        BigInteger limit = c.multiply(c).multiply(big(10000));
        int t = 0;
        while (big((t + 1) * (t + 1)).multiply(u).multiply(v).compareTo(limit) <= 0) {
            t++;
        }
        return c.signum() * t;
    }

    /** n times the sum of products, less the product of sums, of two of a point's numbers. */
    private static BigInteger spread(List<long[]> points, int x, int y) {
        BigInteger products = BigInteger.ZERO;
        BigInteger ofX = BigInteger.ZERO;
        BigInteger ofY = BigInteger.ZERO;
        for (long[] point : points) {
            products = products.add(big(point[x] * point[y]));
            ofX = ofX.add(big(point[x]));
            ofY = ofY.add(big(point[y]));
        }
        return products.multiply(big(points.size())).subtract(ofX.multiply(ofY));
    }

    private static Listed laid(List<Integer> a, List<Integer> b, int shift) {
        int sum = 0;
        int r = 0;
        for (int j = 0; j + 1 < b.size(); j++) {
            if (pair(a, b, shift, j) && pair(a, b, shift, j + 1)) {
                int ofA = Integer.signum(a.get(j + 1 + shift) - a.get(j + shift));
                int ofB = Integer.signum(b.get(j + 1) - b.get(j));
                sum += 2 - Math.abs(ofA - ofB);
                r++;
            }
        }
        return new Listed(shift, pairs(a, b, shift), correlation(a, b, shift), sum, r);
    }

    int match(int a, int b, int least) {
        List<Integer> first = series(a);
        List<Integer> second = series(b);
        argument(least >= 3 && least <= 24);
        list = new ArrayList<>();
        for (int shift = 30; shift >= -30; shift--) {
            if (inCommon(first, second, shift)) {
                tries++;
                if (pairs(first, second, shift) >= least) {
                    list.add(laid(first, second, shift));
                }
            }
        }
        list.sort(Comparator.<Listed>comparingInt(o -> -o.correlation)
                .thenComparingInt(o -> -o.n).thenComparingInt(o -> o.shift));
        return list.size();
    }

    private static boolean inCommon(List<Integer> a, List<Integer> b, int shift) {
        for (long j = 0; j < b.size(); j++) {
            if (j + shift >= 0 && j + shift < a.size()) {
                return true;
            }
        }
        return false;
    }

    int overlap(int k, int what) {
        index(k >= 0 && k < list.size() && what >= 0 && what <= 2);
        Listed of = list.get(k);
        return new int[] {of.shift, of.n, of.correlation}[what];
    }

    private static BigInteger[] fraction(BigInteger above, BigInteger below) {
        BigInteger divisor = above.gcd(below);
        return new BigInteger[] {above.divide(divisor), below.divide(divisor)};
    }

    int agree(int k, int part) {
        index(k >= 0 && k < list.size() && part >= 0 && part <= 1);
        Listed of = list.get(k);
        return of.r == 0 ? part : fraction(big(of.sum), big(2 * of.r))[part].intValueExact();
    }

    private static BigInteger factorial(int n) {
        return n <= 1 ? BigInteger.ONE : big(n).multiply(factorial(n - 1));
    }

    long odds(int k, int part) {
        index(k >= 0 && k < list.size() && part >= 0 && part <= 1);
        Listed of = list.get(k);
        BigInteger ways = BigInteger.ZERO;
        for (int g = of.sum / 2 + of.sum % 2; g <= of.r; g++) {
            ways = ways.add(factorial(of.r).divide(factorial(g)).divide(factorial(of.r - g)));
        }
        BigInteger below = BigInteger.TWO.pow(of.r);
        return fraction(ways.multiply(big(tries)).min(below), below)[part].longValueExact();
    }

    int absent(int a, int b, int shift) {
        List<Integer> first = series(a);
        List<Integer> second = series(b);
        argument(second.size() < 24 && shift >= -24 && shift <= 24);
        int best = -1;
        int greatest = -1000;
        for (int p = second.size(); p >= 0; p--) {
            List<Integer> with = new ArrayList<>(second);
            with.add(p, null);
            if (pairs(first, with, shift) >= 3 && correlation(first, with, shift) >= greatest) {
                best = p;
                greatest = correlation(first, with, shift);
            }
        }
        return best;
    }

    int core(int a, int b, int shift) {
        List<Integer> first = series(a);
        List<Integer> second = series(b);
        state(all.size() < 8);
        if (!inCommon(first, second, shift)) {
            return -1;
        }
        List<Integer> joined = new ArrayList<>();
        for (int place = -30; place < 60; place++) {
            boolean inFirst = place >= 0 && place < first.size();
            boolean inSecond = place - shift >= 0 && place - shift < second.size();
            Integer x = inFirst ? first.get(place) : null;
            Integer y = inSecond ? second.get(place - shift) : null;
            if (inFirst || inSecond) {
                joined.add(x == null ? y : y == null ? x : Integer.valueOf((int) Math.round((x + y) / 2.0)));
            }
        }
        if (joined.size() > 24) {
            return -1;
        }
        all.add(joined);
        return all.size() - 1;
    }

    int group(int series, int least, int bound) {
        series(series);
        argument(least >= 3 && least <= 24);
        int many = all.size();
        boolean[][] joined = new boolean[many][many];
        for (int i = 0; i < many; i++) {
            for (int j = 0; j < many; j++) {
                joined[i][j] = i == j || someOverlap(all.get(i), all.get(j), least, bound);
            }
        }
        for (int by = 0; by < many; by++) {
            for (int i = 0; i < many; i++) {
                for (int j = 0; j < many; j++) {
                    joined[i][j] |= joined[i][by] && joined[by][j];
                }
            }
        }
        int lowest = 0;
        while (!joined[series][lowest]) {
            lowest++;
        }
        return lowest;
    }

    private static boolean someOverlap(List<Integer> a, List<Integer> b, int least, int bound) {
        for (int shift = -30; shift <= 30; shift++) {
            if (pairs(a, b, shift) >= least && correlation(a, b, shift) >= bound) {
                return true;
            }
        }
        return false;
    }

    int count(int what) {
        index(what >= 0 && what <= 3);
        return new int[] {pad.length(), all.size(), list.size(), tries}[what];
    }
}
