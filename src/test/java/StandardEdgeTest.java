/** Sentences of the document that name a boundary: standards, readings, counts (promises 20 to 22). */
public final class StandardEdgeTest {
    private static final Checks CHECKS = new Checks();
    private static final int LOW = Checks.LOW;
    private static final int HIGH = Checks.HIGH;

    public static void main(String[] args) {
        standardDays();
        standardFactors();
        tenStandards();
        toldAgain();
        anyOrder();
        withoutAny();
        aheadOfTheFirst();
        behindTheLast();
        atOne();
        lineRoundedDown();
        nearestStandards();
        widestLines();
        readingRoundedDown();
        correctedDays();
        readings();
        counts();
        countsOfNothing();
        countsOfAFullObject();
        CHECKS.end();
    }

    private static void dueReading(SpectrumParts x, int day, int v, long want) {
        CHECKS.due("corrected(" + day + ", " + v + ")", want, () -> x.corrected(day, v));
    }

    /** A reading of f becomes 1000 by a factor of f, and less with any greater factor. */
    private static void dueFactor(SpectrumParts x, int day, int factor) {
        dueReading(x, day, factor, 1000);
        dueReading(x, day, factor - 1, (factor - 1) * 1000L / factor);
    }

    private static SpectrumParts standards(int... daysAndFactors) {
        SpectrumParts x = new SpectrumParts(4);
        for (int i = 0; i + 1 < daysAndFactors.length; i += 2) {
            x.standard(daysAndFactors[i], daysAndFactors[i + 1]);
        }
        return x;
    }

    private static void standardDays() {
        CHECKS.sentence("IllegalArgumentException: day (0 .. 100000)");
        SpectrumParts x = new SpectrumParts(4);
        CHECKS.refusesEach("standard: day", Checks.ARGUMENT, d -> x.standard(d, 5), LOW, -100000, -1, 100001, 100002, HIGH);
        CHECKS.due("none was taken", 0, () -> x.count(4));
        CHECKS.due("day 0", 1, () -> x.standard(0, 5));
        CHECKS.due("day 1", 2, () -> x.standard(1, 5));
        CHECKS.due("day 99999", 3, () -> x.standard(99999, 5));
        CHECKS.due("day 100000", 4, () -> x.standard(100000, 5));
    }

    private static void standardFactors() {
        CHECKS.sentence("IllegalArgumentException: .. or factor (1 .. 10000)");
        SpectrumParts x = standards(7, 500);
        CHECKS.refusesEach("standard: factor", Checks.ARGUMENT, f -> x.standard(7, f), LOW, -1, 0, 10001, 10002, HIGH);
        CHECKS.refusesEach("standard: factor of a new day", Checks.ARGUMENT, f -> x.standard(8, f), LOW, -1, 0, 10001, HIGH);
        dueFactor(x, 7, 500);
        CHECKS.due("factor 1", 1, () -> x.standard(7, 1));
        dueReading(x, 7, 1, 1000);
        CHECKS.due("factor 10000", 1, () -> x.standard(7, 10000));
        dueFactor(x, 7, 10000);
    }

    private static void tenStandards() {
        CHECKS.sentence("IllegalStateException: there are ten, and it would be one more.");
        SpectrumParts x = new SpectrumParts(4);
        for (int i = 1; i <= 10; i++) {
            int days = i;
            CHECKS.due("standard()", days, () -> x.standard(days * 10, days));
            CHECKS.due("how many", days, () -> x.count(4));
        }
        CHECKS.refusesEach("an eleventh", Checks.STATE, d -> x.standard(d, 5), 0, 9, 11, 99, 101, 100000);
        CHECKS.refusesEach("an eleventh, no such day", Checks.ARGUMENT, d -> x.standard(d, 5), -1, 100001);
        CHECKS.refusesEach("an eleventh, no such factor", Checks.ARGUMENT, f -> x.standard(11, f), 0, 10001);
        CHECKS.due("ten stay", 10, () -> x.count(4));
        CHECKS.due("the first of ten told again", 10, () -> x.standard(10, 77));
        CHECKS.due("the last of ten told again", 10, () -> x.standard(100, 78));
        dueFactor(x, 0, 77);
        dueFactor(x, 101, 78);
    }

    private static void toldAgain() {
        CHECKS.sentence("(told again, a day's factor takes the place of the former one)");
        SpectrumParts x = standards(5, 100, 9, 200);
        CHECKS.due("told again", 2, () -> x.standard(5, 300));
        dueFactor(x, 5, 300);
        dueFactor(x, 9, 200);
        CHECKS.due("told again, the same", 2, () -> x.standard(9, 200));
        dueFactor(x, 9, 200);
        // between them 300 falls to 200 by 25 a day
        dueFactor(x, 6, 275);
    }

    private static void anyOrder() {
        CHECKS.sentence("A standard, in any order .. how many days there are.");
        int[][] orders = {{0, 10, 4, 30, 8, 50}, {8, 50, 4, 30, 0, 10}, {4, 30, 8, 50, 0, 10}, {8, 50, 0, 10, 4, 30}};
        for (int[] order : orders) {
            SpectrumParts x = standards(order);
            CHECKS.due("how many", 3, () -> x.count(4));
            for (int day = 0; day <= 8; day++) {
                dueFactor(x, day, 10 + 5 * day);
            }
            dueFactor(x, 9, 50);
        }
    }

    private static void withoutAny() {
        CHECKS.sentence("1000 without any");
        SpectrumParts x = new SpectrumParts(4);
        for (int day : new int[] {0, 1, 99999, 100000}) {
            dueReading(x, day, 0, 0);
            dueReading(x, day, 1, 1);
            dueReading(x, day, 1000000, 1000000);
        }
        CHECKS.refuses("a standard that is refused", Checks.ARGUMENT, () -> x.standard(0, 0));
        dueReading(x, 0, 999, 999);
    }

    private static void aheadOfTheFirst() {
        CHECKS.sentence("ahead of the first one .. that one's");
        SpectrumParts x = standards(50, 400, 60, 800, 100000, 7);
        dueFactor(x, 0, 400);
        dueFactor(x, 49, 400);
        dueFactor(x, 50, 400);
        dueFactor(x, 51, 440);
        SpectrumParts one = standards(100000, 9);
        dueFactor(one, 0, 9);
        dueFactor(one, 99999, 9);
    }

    private static void behindTheLast() {
        CHECKS.sentence("or behind the last one that one's");
        SpectrumParts x = standards(0, 7, 50, 400, 60, 800);
        dueFactor(x, 59, 760);
        dueFactor(x, 60, 800);
        dueFactor(x, 61, 800);
        dueFactor(x, 100000, 800);
        SpectrumParts one = standards(0, 9);
        dueFactor(one, 1, 9);
        dueFactor(one, 100000, 9);
    }

    private static void atOne() {
        CHECKS.sentence("the nearest standards at or ahead of it and at or behind it");
        SpectrumParts x = standards(10, 1, 11, 10000, 12, 3);
        dueFactor(x, 9, 1);
        dueFactor(x, 10, 1);
        dueFactor(x, 11, 10000);
        dueFactor(x, 12, 3);
        dueFactor(x, 13, 3);
        SpectrumParts ends = standards(0, 8, 100000, 4);
        dueFactor(ends, 0, 8);
        dueFactor(ends, 100000, 4);
    }

    private static void lineRoundedDown() {
        CHECKS.sentence("a day's factor is that on the straight line .., rounded down");
        SpectrumParts rising = standards(0, 10, 3, 12);
        dueFactor(rising, 1, 10);
        dueFactor(rising, 2, 11);
        SpectrumParts falling = standards(0, 12, 3, 10);
        // 12 - 2 / 3 and 12 - 4 / 3
        dueFactor(falling, 1, 11);
        dueFactor(falling, 2, 10);
        SpectrumParts lowest = standards(0, 2, 10, 1);
        dueFactor(lowest, 1, 1);
        dueFactor(lowest, 9, 1);
        SpectrumParts level = standards(0, 5, 10, 5);
        dueFactor(level, 7, 5);
    }

    private static void nearestStandards() {
        CHECKS.sentence("between the nearest standards (and no others)");
        SpectrumParts x = standards(0, 9000, 100, 20, 40, 10, 50, 30, 60, 50, 90, 70);
        dueFactor(x, 45, 20);
        dueFactor(x, 55, 40);
        dueFactor(x, 75, 60);
        dueFactor(x, 95, 45);
        dueFactor(x, 20, 4505);
    }

    private static void widestLines() {
        CHECKS.sentence("STANDARDS, at most 10, are days 0 .. 100000 with a FACTOR 1 .. 10000");
        SpectrumParts rising = standards(0, 1, 100000, 10000);
        // 1 + 9999 * day / 100000
        dueReading(rising, 0, 1, 1000);
        dueReading(rising, 1, 1, 1000);
        dueReading(rising, 10, 1, 1000);
        dueFactor(rising, 11, 2);
        dueFactor(rising, 50000, 5000);
        dueFactor(rising, 99999, 9999);
        dueFactor(rising, 100000, 10000);
        SpectrumParts falling = standards(0, 10000, 100000, 1);
        // 10000 - 9999 * day / 100000
        dueFactor(falling, 0, 10000);
        dueFactor(falling, 1, 9999);
        dueFactor(falling, 50000, 5000);
        dueFactor(falling, 99989, 2);
        dueFactor(falling, 99990, 1);
        dueFactor(falling, 99999, 1);
    }

    private static void readingRoundedDown() {
        CHECKS.sentence("v times 1000, divided by the day's factor, rounded down.");
        SpectrumParts x = standards(0, 3);
        dueReading(x, 0, 1, 333);
        dueReading(x, 0, 2, 666);
        dueReading(x, 0, 3, 1000);
        SpectrumParts most = standards(0, 10000);
        dueReading(most, 0, 9, 0);
        dueReading(most, 0, 10, 1);
        dueReading(most, 0, 19, 1);
        dueReading(most, 0, 1000000, 100000);
        SpectrumParts least = standards(0, 1);
        dueReading(least, 0, 0, 0);
        dueReading(least, 0, 1, 1000);
        dueReading(least, 0, 1000000, 1000000000);
    }

    private static void correctedDays() {
        CHECKS.sentence("IllegalArgumentException: day is not 0 .. 100000");
        for (SpectrumParts x : new SpectrumParts[] {new SpectrumParts(4), standards(3, 1000)}) {
            CHECKS.refusesEach("corrected: day", Checks.ARGUMENT, d -> x.corrected(d, 1), LOW, -100000, -1, 100001, 100002, HIGH);
            dueReading(x, 0, 1, 1);
            dueReading(x, 100000, 1, 1);
        }
    }

    private static void readings() {
        CHECKS.sentence("or v not 0 .. 1000000.");
        for (SpectrumParts x : new SpectrumParts[] {new SpectrumParts(4), standards(3, 1000)}) {
            CHECKS.refusesEach("corrected: v", Checks.ARGUMENT, v -> x.corrected(3, v), LOW, -1000, -1, 1000001, 1000002, HIGH);
            dueReading(x, 3, 0, 0);
            dueReading(x, 3, 1000000, 1000000);
        }
    }

    private static void counts() {
        CHECKS.sentence("IndexOutOfBoundsException: none of these.");
        SpectrumParts x = new SpectrumParts(4);
        CHECKS.refusesEach("count", Checks.INDEX, x::count, LOW, -5, -1, 5, 6, HIGH);
    }

    private static void dueCounts(SpectrumParts x, int... counts) {
        for (int what = 0; what < counts.length; what++) {
            int w = what;
            CHECKS.due("count(" + w + ")", counts[w], () -> x.count(w));
        }
    }

    private static void countsOfNothing() {
        CHECKS.sentence("0 channels, 1 peaks, 2 libraries, 3 samples, 4 standards. (the least of each)");
        dueCounts(new SpectrumParts(4), 4, 0, 0, 0, 0);
        dueCounts(new SpectrumParts(24), 24, 0, 0, 0, 0);
    }

    private static void countsOfAFullObject() {
        CHECKS.sentence("0 channels, 1 peaks, 2 libraries, 3 samples, 4 standards. (the most of each)");
        SpectrumParts x = new SpectrumParts(24);
        for (int i = 0; i < 12; i++) {
            x.told(2 * i, 1);
            x.sample();
        }
        for (int i = 0; i < 10; i++) {
            x.standard(i, 1);
        }
        for (int i = 0; i < 3; i++) {
            x.library();
        }
        x.peaks(0);
        dueCounts(x, 24, 12, 3, 12, 10);
    }
}
