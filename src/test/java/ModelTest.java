import java.util.Random;

/** Runs of up to 512 calls, the same ones every time, answered by the class and by the model of the document. */
public final class ModelTest {
    private static final int RUNS = 250;
    private static final int CALLS = 512;
    private static final int[] FAR = {Integer.MIN_VALUE, Integer.MAX_VALUE, -25, 25, 24, -24, 100, -2};

    private final Random random;
    private final RingMatches x = new RingMatches();
    private final Model model = new Model();
    private final String name;
    private final int most;
    private final int step;
    private int calls = 0;

    private ModelTest(int run) {
        random = new Random(run);
        name = "run " + run + ": ";
        most = new int[] {500, 20, 4, 2}[run % 4];
        step = new int[] {60, 9, 3}[run % 3];
    }

    public static void main(String[] args) {
        for (int run = 0; run < RUNS; run++) {
            new ModelTest(run).play();
        }
        Check.end();
    }

    private void both(String call, Check.Call got, Check.Call want) {
        calls++;
        Check.same(name + call, Check.told(got), Check.told(want));
    }

    private void play() {
        while (calls < CALLS - 30) {
            int kind = random.nextInt(step);
            if (kind == 0) {
                read();
            } else if (kind == 1) {
                units(random.nextInt(), random.nextInt());
            } else {
                ask();
            }
        }
    }

    /** Mostly from low up to below many, now and then one beside it or far away. */
    private int from(int low, int many) {
        int kind = random.nextInt(20);
        if (kind == 0) {
            return FAR[random.nextInt(FAR.length)];
        }
        if (kind == 1) {
            return low + many;
        }
        if (kind == 2) {
            return low - 1;
        }
        return low + random.nextInt(Math.max(1, many));
    }

    private int series() {
        return from(0, model.count(1));
    }

    private void units(int a, int b) {
        both("unit(" + a + ", " + b + ")", () -> x.unit(a, b), () -> model.unit(a, b));
    }

    private void read() {
        String text = text();
        for (int i = 0; i < text.length(); i += 8) {
            units(Check.packed(text, i), Check.packed(text, i + 4));
        }
        both("read() of " + text, x::read, model::read);
    }

    private String text() {
        StringBuilder text = new StringBuilder();
        int many = 1 + random.nextInt(random.nextInt(4) == 0 ? 25 : 14);
        int gaps = 2 + random.nextInt(12);
        for (int i = 0; i < many; i++) {
            text.append(i == 0 ? "" : " ");
            text.append(random.nextInt(gaps) == 0 ? "-" : "" + (1 + random.nextInt(most)));
        }
        if (random.nextInt(4) == 0) {
            char sign = "0123456789- 00559/x~".charAt(random.nextInt(20));
            text.insert(random.nextInt(text.length() + 1), sign);
        }
        return text.toString();
    }

    private void ask() {
        switch (random.nextInt(9)) {
            case 0 -> askRings(series());
            case 1, 2, 3 -> askMatch(series(), series(), from(3, random.nextInt(4) == 0 ? 22 : 3));
            case 4 -> askAbsent(series(), series(), from(-6, 13));
            case 5 -> askCore(series(), series(), from(-4, 9));
            case 6 -> askGroup(series(), from(3, 6), from(-100, 202));
            case 7 -> askOverlap(from(0, model.count(2)), from(0, 3));
            default -> {
                int what = from(0, 4);
                both("count(" + what + ")", () -> x.count(what), () -> model.count(what));
            }
        }
    }

    private void askRings(int series) {
        int k = from(-1, 14);
        both("width(" + series + ", " + k + ")", () -> x.width(series, k), () -> model.width(series, k));
        both("evened(" + series + ", " + k + ")", () -> x.evened(series, k), () -> model.evened(series, k));
        int i = from(-1, 40);
        both("written(" + series + ", " + i + ")", () -> x.written(series, i), () -> model.written(series, i));
    }

    private void askMatch(int a, int b, int least) {
        both("match(" + a + ", " + b + ", " + least + ")", () -> x.match(a, b, least), () -> model.match(a, b, least));
        for (int i = 0; i < 2; i++) {
            int k = from(0, model.count(2));
            for (int what = 0; what < 3; what++) {
                askOverlap(k, what);
            }
        }
    }

    private void askOverlap(int k, int what) {
        both("overlap(" + k + ", " + what + ")", () -> x.overlap(k, what), () -> model.overlap(k, what));
        both("agree(" + k + ", " + what + ")", () -> x.agree(k, what), () -> model.agree(k, what));
        both("odds(" + k + ", " + what + ")", () -> x.odds(k, what), () -> model.odds(k, what));
    }

    private void askAbsent(int a, int b, int shift) {
        both("absent(" + a + ", " + b + ", " + shift + ")",
                () -> x.absent(a, b, shift), () -> model.absent(a, b, shift));
    }

    private void askCore(int a, int b, int shift) {
        both("core(" + a + ", " + b + ", " + shift + ")", () -> x.core(a, b, shift), () -> model.core(a, b, shift));
    }

    private void askGroup(int series, int least, int bound) {
        both("group(" + series + ", " + least + ", " + bound + ")",
                () -> x.group(series, least, bound), () -> model.group(series, least, bound));
    }
}
