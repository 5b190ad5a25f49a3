import java.util.Random;

/** Long runs of calls, right and wrong ones, answered by the program and by the slow model. */
public final class ModelTest {
    private static final int RUNS = 250;
    private static final int CALLS = 512;
    private static final String[] NAMES = {"told", "background", "lowered", "peaks", "peak", "line", "element", "detect",
        "library", "entry", "parts", "share", "least", "sample", "measured", "covariance", "distance", "group", "standard",
        "corrected", "count"};
    // a wrong argument is mostly next to a bound
    private static final int[] ODD = {-1, 0, 1, 2, 3, 4, 5, 8, 12, 13, 20, 21, 24, 25, 500, 501, 1000, 1001, -1000, -1001,
        10000, 10001, 100000, 100001, 1000000, 1000001, 65536, Integer.MIN_VALUE, Integer.MAX_VALUE};

    private final Random random;
    private final int channels;
    private final int mostCount;
    private final int mostEntry;
    private final int mostMeasure;
    private final int mostDay;
    private final SpectrumParts real;
    private final SlowModel model;

    private ModelTest(int seed) {
        random = new Random(seed);
        channels = random.nextInt(4) == 0 ? ODD[random.nextInt(ODD.length)] : 4 + random.nextInt(21);
        mostCount = pick(2, 5, 40, 500);
        mostEntry = pick(1, 2, 6, 20);
        mostMeasure = pick(2, 10, 100, 1000);
        mostDay = pick(9, 30, 1000, 100000);
        real = new SpectrumParts(channels);
        model = new SlowModel(channels);
    }

    public static void main(String[] args) {
        Checks checks = new Checks();
        for (int run = 0; run < RUNS; run++) {
            new ModelTest(run).play(run, checks);
        }
        checks.end();
    }

    private int pick(int... of) {
        return of[random.nextInt(of.length)];
    }

    private int upTo(int most) {
        return random.nextInt(most + 1);
    }

    private void play(int run, Checks checks) {
        for (int call = 0; call < CALLS; call++) {
            int op = chosen();
            int[] a = arguments(op);
            for (int k = 0; k < 3; k++) {
                if (random.nextInt(40) == 0) {
                    a[k] = pick(ODD);
                }
            }
            String name = "run " + run + ", call " + call + ": " + NAMES[op] + " of " + a[0] + ", " + a[1] + ", " + a[2];
            checks.told(name, Checks.outcome(() -> byModel(op, a[0], a[1], a[2])), Checks.outcome(() -> byReal(op, a[0], a[1], a[2])));
        }
    }

    private int chosen() {
        // parts(), share(), told() and entry() a little more often than others
        int k = random.nextInt(NAMES.length + 9);
        return k < NAMES.length ? k : pick(0, 0, 0, 9, 9, 9, 10, 11, 12);
    }

    private int[] arguments(int op) {
        int size = real.count(0);
        switch (op) {
            case 0: return new int[] {upTo(size - 1), upTo(mostCount), 0};
            case 1: return new int[] {random.nextInt(3) == 0 ? upTo(12) : 1 + upTo(3), 0, 0};
            case 2: return new int[] {upTo(size - 1), 0, 0};
            case 3: return new int[] {upTo(mostCount) / 3, 0, 0};
            case 4: return new int[] {upTo(5), upTo(4), 0};
            case 5: return new int[] {upTo(7), upTo(size - 1), 0};
            case 6: return new int[] {upTo(4), upTo(pick(2, 24)), 0};
            case 7: return new int[] {upTo(7), 0, 0};
            case 9: return new int[] {upTo(2), upTo(size - 1), upTo(mostEntry)};
            case 11: return new int[] {upTo(2), upTo(1), 0};
            case 14: return new int[] {upTo(11), upTo(1), upTo(2 * mostMeasure) - mostMeasure};
            case 15: return covarianceArguments();
            case 16: return new int[] {upTo(11), upTo(11), upTo(1)};
            case 17: return new int[] {upTo(11), upTo(pick(3, 50, 3000, mostMeasure * mostMeasure)), 0};
            case 18: return new int[] {upTo(mostDay), 1 + upTo(pick(5, 2000, 9999)), 0};
            case 19: return new int[] {upTo(mostDay), upTo(pick(10, 5000, 1000000)), 0};
            case 20: return new int[] {upTo(4), 0, 0};
            default: return new int[] {0, 0, 0};
        }
    }

    private int[] covarianceArguments() {
        int most = pick(3, 20, 1000);
        return new int[] {1 + upTo(most - 1), upTo(2 * most) - most, 1 + upTo(most - 1)};
    }

    private long byReal(int op, int a, int b, int c) {
        switch (op) {
            case 0: return real.told(a, b);
            case 1: return real.background(a);
            case 2: return real.lowered(a);
            case 3: return real.peaks(a);
            case 4: return real.peak(a, b);
            case 5: return real.line(a, b);
            case 6: return real.element(a, b);
            case 7: return real.detect(a);
            case 8: return real.library();
            case 9: return real.entry(a, b, c);
            case 10: return real.parts();
            case 11: return real.share(a, b);
            case 12: return real.least() ? 1 : 0;
            case 13: return real.sample();
            case 14: return real.measured(a, b, c);
            case 15: real.covariance(a, b, c); return 0;
            case 16: return real.distance(a, b, c);
            case 17: return real.group(a, b);
            case 18: return real.standard(a, b);
            case 19: return real.corrected(a, b);
            default: return real.count(a);
        }
    }

    private long byModel(int op, int a, int b, int c) {
        switch (op) {
            case 0: return model.told(a, b);
            case 1: return model.background(a);
            case 2: return model.lowered(a);
            case 3: return model.peaks(a);
            case 4: return model.peak(a, b);
            case 5: return model.line(a, b);
            case 6: return model.element(a, b);
            case 7: return model.detect(a);
            case 8: return model.library();
            case 9: return model.entry(a, b, c);
            case 10: return model.parts();
            case 11: return model.share(a, b);
            case 12: return model.least() ? 1 : 0;
            case 13: return model.sample();
            case 14: return model.measured(a, b, c);
            case 15: return model.covariance(a, b, c);
            case 16: return model.distance(a, b, c);
            case 17: return model.group(a, b);
            case 18: return model.standard(a, b);
            case 19: return model.corrected(a, b);
            default: return model.count(a);
        }
    }
}
