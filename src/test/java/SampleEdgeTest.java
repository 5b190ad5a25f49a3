/** Sentences of the document that name a boundary: samples, distances, groups (promises 15 to 19). */
public final class SampleEdgeTest {
    private static final Checks CHECKS = new Checks();
    private static final int LOW = Checks.LOW;
    private static final int HIGH = Checks.HIGH;

    public static void main(String[] args) {
        twelveSamples();
        measuresAtFirst();
        noSuchSampleMeasured();
        noSuchMeasure();
        measureBounds();
        covarianceAtFirst();
        covarianceOuterBounds();
        covarianceInnerBounds();
        covarianceAboveNothing();
        covarianceThatWraps();
        distanceOfNothing();
        lowestTerms();
        greatDistances();
        noSuchSampleApart();
        noSuchPart();
        alone();
        notAboveTheCut();
        joinedToOne();
        longestChain();
        noSuchSampleOfGroup();
        cutBounds();
        CHECKS.end();
    }

    private static void dueDistance(SpectrumParts x, int a, int b, long above, long below) {
        CHECKS.due("distance(" + a + ", " + b + ", 0)", above, () -> x.distance(a, b, 0));
        CHECKS.due("distance(" + a + ", " + b + ", 1)", below, () -> x.distance(a, b, 1));
    }

    private static void dueGroup(SpectrumParts x, int sample, int cut, int want) {
        CHECKS.due("group(" + sample + ", " + cut + ")", want, () -> x.group(sample, cut));
    }

    private static void dueTaken(SpectrumParts x, int a, int b, int c) {
        CHECKS.due("covariance(" + a + ", " + b + ", " + c + ")", 0, () -> Make.covariance(x, a, b, c));
    }

    private static void dueRefused(SpectrumParts x, int a, int b, int c) {
        CHECKS.refuses("covariance(" + a + ", " + b + ", " + c + ")", Checks.ARGUMENT, () -> Make.covariance(x, a, b, c));
    }

    /** Samples with a first measure each, the second one 0. */
    private static SpectrumParts places(int... places) {
        SpectrumParts x = new SpectrumParts(4);
        for (int place : places) {
            Make.addSample(x, place, 0);
        }
        return x;
    }

    private static void twelveSamples() {
        CHECKS.sentence("A sample: its number. IllegalStateException: there are twelve.");
        SpectrumParts x = new SpectrumParts(4);
        for (int k = 0; k < 12; k++) {
            int number = k;
            CHECKS.due("sample()", number, x::sample);
            CHECKS.due("how many", number + 1, () -> x.count(3));
        }
        CHECKS.refuses("a thirteenth", Checks.STATE, x::sample);
        CHECKS.refuses("a thirteenth again", Checks.STATE, x::sample);
        CHECKS.due("twelve stay", 12, () -> x.count(3));
        CHECKS.due("the last one is there", 0, () -> x.measured(11, 1, 5));
        CHECKS.refuses("no one is behind it", Checks.INDEX, () -> x.measured(12, 1, 5));
    }

    private static void measuresAtFirst() {
        CHECKS.sentence("SAMPLES, at most 12, have two MEASURES -1000 .. 1000 (0 at first).");
        SpectrumParts x = new SpectrumParts(4);
        for (int i = 0; i < 12; i++) {
            int sample = x.sample();
            CHECKS.due("measure 0 of sample " + i, 0, () -> x.measured(sample, 0, 1000));
            CHECKS.due("measure 1 of sample " + i, 0, () -> x.measured(sample, 1, -1000));
        }
    }

    private static void noSuchSampleMeasured() {
        CHECKS.sentence("A measure 0 or 1 of a sample: what it was. IndexOutOfBoundsException (sample)");
        SpectrumParts x = new SpectrumParts(4);
        for (int made = 0; made <= 12; made++) {
            CHECKS.refusesEach("measured of " + made, Checks.INDEX, s -> x.measured(s, 0, 1), LOW, -1, made, 12, HIGH);
            CHECKS.refuses("measured, v wrong too", Checks.INDEX, () -> x.measured(12, 0, 1001));
            if (made > 0) {
                int last = made - 1;
                CHECKS.due("measured of the last one", 0, () -> x.measured(last, 0, 1));
            }
            if (made < 12) {
                x.sample();
            }
        }
    }

    private static void noSuchMeasure() {
        CHECKS.sentence("A measure 0 or 1 of a sample: what it was. IndexOutOfBoundsException (measure)");
        SpectrumParts x = places(3);
        CHECKS.refusesEach("measured: k", Checks.INDEX, k -> x.measured(0, k, 1), LOW, -2, -1, 2, 3, 12, HIGH);
        CHECKS.refusesEach("measured: k, and v 1001", Checks.INDEX, k -> x.measured(0, k, 1001), -1, 2);
        CHECKS.due("measure 0", 3, () -> x.measured(0, 0, 1));
        CHECKS.due("measure 1", 0, () -> x.measured(0, 1, 1));
    }

    private static void measureBounds() {
        CHECKS.sentence("IllegalArgumentException: v is not -1000 .. 1000.");
        SpectrumParts x = places(0);
        for (int k : new int[] {0, 1}) {
            CHECKS.due("1000", 0, () -> x.measured(0, k, 1000));
            CHECKS.refusesEach("measured: v", Checks.ARGUMENT, v -> x.measured(0, k, v), LOW, -1002, -1001, 1001, 1002, 65536, HIGH);
            CHECKS.due("-1000", 1000, () -> x.measured(0, k, -1000));
            CHECKS.due("999", -1000, () -> x.measured(0, k, 999));
            CHECKS.due("-999", 999, () -> x.measured(0, k, -999));
            CHECKS.due("0", -999, () -> x.measured(0, k, 0));
        }
    }

    private static void covarianceAtFirst() {
        CHECKS.sentence("With a COVARIANCE a, b, c (1, 0, 1 at first)");
        SpectrumParts x = new SpectrumParts(4);
        Make.addSample(x, 3, 4);
        Make.addSample(x, 0, 0);
        dueDistance(x, 0, 1, 25, 1);
        dueTaken(x, 1, 0, 1);
        dueDistance(x, 0, 1, 25, 1);
    }

    private static void covarianceOuterBounds() {
        CHECKS.sentence("IllegalArgumentException: a or c is not 1 .. 1000");
        SpectrumParts x = new SpectrumParts(4);
        Make.addSample(x, 1, 0);
        Make.addSample(x, 0, 1);
        for (int wrong : new int[] {LOW, -1000, -1, 0, 1001, 1002, HIGH}) {
            dueRefused(x, wrong, 0, 1);
            dueRefused(x, 1, 0, wrong);
            dueRefused(x, wrong, 0, wrong);
        }
        dueDistance(x, 0, 1, 2, 1);
        dueTaken(x, 1, 0, 1000);
        // (1000 + 1) / 1000
        dueDistance(x, 0, 1, 1001, 1000);
        dueTaken(x, 1000, 0, 1);
        dueDistance(x, 0, 1, 1001, 1000);
        dueTaken(x, 1000, 0, 1000);
        dueDistance(x, 0, 1, 1, 500);
    }

    private static void covarianceInnerBounds() {
        CHECKS.sentence("b not -1000 .. 1000");
        SpectrumParts x = places(1, 0);
        for (int wrong : new int[] {LOW, -1002, -1001, 1001, 1002, HIGH}) {
            dueRefused(x, 1000, wrong, 1000);
        }
        dueDistance(x, 0, 1, 1, 1);
        dueTaken(x, 1000, 999, 1000);
        dueDistance(x, 0, 1, 1000, 1999);
        dueTaken(x, 1000, -999, 1000);
        dueDistance(x, 0, 1, 1000, 1999);
    }

    private static void covarianceAboveNothing() {
        CHECKS.sentence("or a c - b b is not above 0");
        SpectrumParts x = places(1, 0);
        int[][] refused = {{1, 1, 1}, {1, -1, 1}, {4, 2, 1}, {1, -2, 4}, {2, 2, 1}, {1000, 1000, 1000}, {1000, -1000, 1000},
            {1000, 1000, 999}, {3, 2, 1}, {1, 1000, 1}};
        for (int[] r : refused) {
            dueRefused(x, r[0], r[1], r[2]);
        }
        dueDistance(x, 0, 1, 1, 1);
        // a c - b b is 1
        int[][] taken = {{2, 1, 1}, {1, 1, 2}, {5, -2, 1}, {1, 2, 5}, {962, 31, 1}, {10, 3, 1}};
        for (int[] t : taken) {
            dueTaken(x, t[0], t[1], t[2]);
            dueDistance(x, 0, 1, t[2], 1);
        }
    }

    private static void covarianceThatWraps() {
        CHECKS.sentence("a c - b b (of numbers whose products go round)");
        SpectrumParts x = places(1, 0);
        // as ints, 65536 * 65536 is 0, 46341 * 46341 is below 0, and 65537 * 65537 is 131073
        int[][] refused = {{1, 65536, 1}, {1, -65536, 1}, {1, LOW, 1}, {1, 46341, 1}, {65537, 0, 65537}, {HIGH, 0, HIGH},
            {-1, 0, -1}, {-1000, 1, -1000}, {LOW, LOW, LOW}, {HIGH, HIGH, HIGH}};
        for (int[] r : refused) {
            dueRefused(x, r[0], r[1], r[2]);
        }
        dueDistance(x, 0, 1, 1, 1);
    }

    private static void distanceOfNothing() {
        CHECKS.sentence("the DISTANCE of two is .. (of one and itself, or of two in one place)");
        SpectrumParts x = places(7, 7, -1000);
        x.covariance(6, 2, 4);
        for (int i = 0; i < 3; i++) {
            dueDistance(x, i, i, 0, 1);
        }
        dueDistance(x, 0, 1, 0, 1);
        dueDistance(x, 1, 0, 0, 1);
    }

    private static void lowestTerms() {
        CHECKS.sentence("as a fraction that cannot be lessened");
        SpectrumParts x = new SpectrumParts(4);
        Make.addSample(x, 2, 0);
        Make.addSample(x, 0, 0);
        Make.addSample(x, 0, 2);
        x.covariance(6, 2, 4);
        // 4 * 4 / 20, 6 * 4 / 20, (4 * 4 + 2 * 2 * 4 + 6 * 4) / 20
        dueDistance(x, 0, 1, 4, 5);
        dueDistance(x, 2, 1, 6, 5);
        dueDistance(x, 0, 2, 14, 5);
        dueDistance(x, 2, 0, 14, 5);
        x.covariance(6, -2, 4);
        // (16 - 16 + 24) / 20
        dueDistance(x, 0, 2, 6, 5);
        x.covariance(2, 0, 2);
        dueDistance(x, 0, 1, 2, 1);
        x.covariance(7, 0, 1);
        dueDistance(x, 0, 1, 4, 7);
    }

    private static void greatDistances() {
        CHECKS.sentence("(c dx dx - 2 b dx dy + a dy dy) / (a c - b b) (of measures as far apart as can be)");
        SpectrumParts x = new SpectrumParts(4);
        Make.addSample(x, 1000, -1000);
        Make.addSample(x, -1000, 1000);
        Make.addSample(x, 1000, 1000);
        dueDistance(x, 0, 1, 8000000, 1);
        dueDistance(x, 1, 2, 4000000, 1);
        x.covariance(1000, 31, 1);
        // dx 2000, dy -2000: 1063 * 4000000 / 39
        dueDistance(x, 0, 1, 4252000000L, 39);
        dueDistance(x, 1, 0, 4252000000L, 39);
        x.covariance(1000, 999, 1000);
        // 3998 * 4000000 / 1999
        dueDistance(x, 0, 1, 8000000, 1);
        x.covariance(1000, 1, 1000);
        // 2002 * 4000000 / 999999: 2002 and 999999 share 1001
        dueDistance(x, 0, 1, 8000000, 999);
        x.covariance(999, -1, 1000);
        // dx 2000, dy -2000: 1997 * 4000000 / 998999
        dueDistance(x, 0, 1, 7988000000L, 998999);
    }

    private static void noSuchSampleApart() {
        CHECKS.sentence("The distance of two samples: .. IndexOutOfBoundsException. (sample)");
        SpectrumParts x = new SpectrumParts(4);
        CHECKS.refusesEach("distance, no samples", Checks.INDEX, s -> x.distance(s, s, 0), LOW, -1, 0, 1, HIGH);
        x.sample();
        x.sample();
        CHECKS.refusesEach("distance: a", Checks.INDEX, s -> x.distance(s, 0, 0), LOW, -1, 2, 11, 12, HIGH);
        CHECKS.refusesEach("distance: b", Checks.INDEX, s -> x.distance(0, s, 1), LOW, -1, 2, 11, 12, HIGH);
        dueDistance(x, 1, 0, 0, 1);
        dueDistance(x, 0, 1, 0, 1);
    }

    private static void noSuchPart() {
        CHECKS.sentence("The distance of two samples: above (0) or below (1). IndexOutOfBoundsException. (part)");
        SpectrumParts x = places(3, 0);
        CHECKS.refusesEach("distance: part", Checks.INDEX, p -> x.distance(0, 1, p), LOW, -2, -1, 2, 3, HIGH);
        dueDistance(x, 0, 1, 9, 1);
    }

    private static void alone() {
        CHECKS.sentence("The lowest sample of a sample's group (of one alone)");
        SpectrumParts x = places(5);
        dueGroup(x, 0, 0, 0);
        dueGroup(x, 0, HIGH, 0);
        SpectrumParts twelve = places(0, 2, 4, 6, 8, 10, 12, 14, 16, 18, 20, 22);
        for (int s = 0; s < 12; s++) {
            dueGroup(twelve, s, 3, s);
            dueGroup(twelve, s, 4, 0);
        }
    }

    private static void notAboveTheCut() {
        CHECKS.sentence("two are joined if their distance is not above a cut");
        SpectrumParts x = places(10, 0);
        dueGroup(x, 1, 99, 1);
        dueGroup(x, 1, 100, 0);
        dueGroup(x, 1, 101, 0);
        x.covariance(3, 0, 1);
        // 100 / 3 lies between 33 and 34
        dueGroup(x, 1, 33, 1);
        dueGroup(x, 1, 34, 0);
        x.covariance(100, 0, 1);
        dueGroup(x, 1, 0, 1);
        dueGroup(x, 1, 1, 0);
        SpectrumParts far = new SpectrumParts(4);
        Make.addSample(far, 1000, -1000);
        Make.addSample(far, -1000, 1000);
        dueGroup(far, 1, 7999999, 1);
        dueGroup(far, 1, 8000000, 0);
        far.covariance(1000, 31, 1);
        // 4252000000 / 39 lies between 109025641 and 109025642
        dueGroup(far, 1, 109025641, 1);
        dueGroup(far, 1, 109025642, 0);
    }

    private static void joinedToOne() {
        CHECKS.sentence("and so are those that are joined to one");
        SpectrumParts x = places(0, 20, 10, 31);
        dueGroup(x, 1, 100, 0);
        dueGroup(x, 3, 100, 3);
        dueGroup(x, 3, 121, 0);
        SpectrumParts two = places(0, 100, 1, 101, 2, 102);
        dueGroup(two, 4, 1, 0);
        dueGroup(two, 5, 1, 1);
        dueGroup(two, 5, 0, 5);
        dueGroup(two, 3, 9604, 0);
        dueGroup(two, 3, 9603, 1);
    }

    private static void longestChain() {
        CHECKS.sentence("and so are those that are joined to one (through all twelve)");
        SpectrumParts falling = places(0, 110, 100, 90, 80, 70, 60, 50, 40, 30, 20, 10);
        SpectrumParts zigzag = places(0, 110, 10, 100, 20, 90, 30, 80, 40, 70, 50, 60);
        for (int s = 0; s < 12; s++) {
            dueGroup(falling, s, 100, 0);
            dueGroup(zigzag, s, 100, 0);
            dueGroup(falling, s, 99, s);
            dueGroup(zigzag, s, 99, s);
        }
    }

    private static void noSuchSampleOfGroup() {
        CHECKS.sentence("The lowest sample of a sample's group: .. IndexOutOfBoundsException");
        SpectrumParts x = new SpectrumParts(4);
        CHECKS.refusesEach("group, no samples", Checks.INDEX, s -> x.group(s, 0), LOW, -1, 0, 1, HIGH);
        x.sample();
        x.sample();
        CHECKS.refusesEach("group", Checks.INDEX, s -> x.group(s, 0), LOW, -1, 2, 11, 12, HIGH);
        CHECKS.refusesEach("group, no such cut", Checks.INDEX, s -> x.group(s, -1), -1, 2);
        dueGroup(x, 1, 0, 0);
    }

    private static void cutBounds() {
        CHECKS.sentence("IllegalArgumentException: cut is below 0.");
        SpectrumParts x = places(7, 8, 7);
        CHECKS.refusesEach("group: cut", Checks.ARGUMENT, cut -> x.group(2, cut), LOW, LOW + 1, -1000, -1);
        dueGroup(x, 2, 0, 0);
        dueGroup(x, 1, 0, 1);
        dueGroup(x, 1, HIGH, 0);
        SpectrumParts far = new SpectrumParts(4);
        Make.addSample(far, 1000, -1000);
        Make.addSample(far, -1000, 1000);
        far.covariance(1000, 0, 1000);
        // the cut times a c goes far beyond an int
        dueGroup(far, 1, HIGH, 0);
        dueGroup(far, 1, 7999, 1);
        dueGroup(far, 1, 8000, 0);
    }
}
