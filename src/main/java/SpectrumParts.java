/**
 * Spectra by channels: background, peaks, elements, shares of libraries, samples in groups,
 * bounds of detection and readings corrected between standards.
 *
 * The methods of this class test what they are given and throw; the classes inside it hold the
 * state and count on arguments that have been tested. All rows are made with the object, so that
 * no call makes another one.
 */
public final class SpectrumParts {
    public static final int NONE = -1;

    private static final int LEAST_CHANNELS = 4;
    private static final int MOST_CHANNELS = 24;
    private static final int MOST_COUNT = 500;
    private static final int MOST_ROUNDS = 12;
    private static final int PEAK_PARTS = 5;
    private static final int ELEMENTS = 8;
    private static final int MOST_LINES = 3;
    private static final int MOST_TOLERANCE = 24;
    private static final int MOST_LIBRARIES = 3;
    private static final int MOST_ENTRY = 20;
    private static final int FRACTION_PARTS = 2;
    private static final int MOST_SAMPLES = 12;
    private static final int MEASURES = 2;
    private static final int MOST_MEASURE = 1000;
    private static final int MOST_COVARIANCE = 1000;
    private static final int MOST_STANDARDS = 10;
    private static final int MOST_DAY = 100000;
    private static final int MOST_FACTOR = 10000;
    private static final int PLAIN_FACTOR = 1000;
    private static final int MOST_READING = 1000000;
    private static final int COUNT_KINDS = 5;

    // sets of libraries as they are preferred: fewest libraries first, then the lesser number
    private static final int[] SETS = {0, 1, 2, 4, 3, 5, 6, 7};

    private final Spectrum spectrum;
    private final PeakList found;
    private final LineTable table;
    private final Mixture mixture;
    private final SampleSet cloud;
    private final StandardList drift;

    public SpectrumParts(int channels) {
        int kept = Math.max(LEAST_CHANNELS, Math.min(MOST_CHANNELS, channels));
        spectrum = new Spectrum(kept);
        found = new PeakList(kept);
        table = new LineTable();
        mixture = new Mixture(kept);
        cloud = new SampleSet();
        drift = new StandardList();
    }

    public int told(int channel, int v) throws IndexOutOfBoundsException, IllegalArgumentException {
        needIndex(channel, spectrum.channels);
        needValue(v, 0, MOST_COUNT);
        int former = spectrum.counts[channel];
        spectrum.counts[channel] = v;
        return former;
    }

    public int background(int rounds) throws IllegalArgumentException {
        needValue(rounds, 0, MOST_ROUNDS);
        spectrum.lowerFor(rounds);
        return spectrum.groundSum();
    }

    public int lowered(int channel) throws IndexOutOfBoundsException {
        needIndex(channel, spectrum.channels);
        return spectrum.ground[channel];
    }

    public int peaks(int level) throws IllegalArgumentException {
        needValue(level, 0, Integer.MAX_VALUE);
        found.lookFor(spectrum, level);
        return found.size;
    }

    public int peak(int k, int what) throws IndexOutOfBoundsException {
        needIndex(k, found.size);
        needIndex(what, PEAK_PARTS);
        return found.rows[what][k];
    }

    public int line(int element, int channel) throws IndexOutOfBoundsException, IllegalStateException {
        needIndex(element, ELEMENTS);
        needIndex(channel, spectrum.channels);
        needState(table.sizes[element] < MOST_LINES);
        return table.add(element, channel);
    }

    public int element(int peak, int tolerance) throws IndexOutOfBoundsException, IllegalArgumentException {
        needIndex(peak, found.size);
        needValue(tolerance, 0, MOST_TOLERANCE);
        return table.nearest(found.rows[PeakList.CHANNEL][peak], tolerance);
    }

    public int detect(int element) throws IndexOutOfBoundsException {
        needIndex(element, ELEMENTS);
        int sum = 0;
        for (int i = 0; i < spectrum.channels; i++) {
            if (table.isAtOrNextTo(element, i)) {
                sum += spectrum.ground[i];
            }
        }
        return rootDown(9 * sum);
    }

    public int library() throws IllegalStateException {
        needState(mixture.size < MOST_LIBRARIES);
        int number = mixture.size;
        mixture.size = number + 1;
        return number;
    }

    public int entry(int library, int channel, int v) throws IndexOutOfBoundsException, IllegalArgumentException {
        needIndex(library, mixture.size);
        needIndex(channel, spectrum.channels);
        needValue(v, 0, MOST_ENTRY);
        int former = mixture.entries[library][channel];
        mixture.entries[library][channel] = v;
        return former;
    }

    public int parts() {
        mixture.weigh(spectrum);
        return mixture.solve();
    }

    public long share(int library, int part) throws IndexOutOfBoundsException, IllegalStateException {
        needIndex(library, mixture.size);
        needIndex(part, FRACTION_PARTS);
        needState(mixture.solved);
        return lessened(mixture.above[library], mixture.below, part);
    }

    public boolean least() throws IllegalStateException {
        needState(mixture.solved);
        mixture.weigh(spectrum);
        return mixture.isLeast();
    }

    public int sample() throws IllegalStateException {
        needState(cloud.size < MOST_SAMPLES);
        int number = cloud.size;
        cloud.size = number + 1;
        return number;
    }

    public int measured(int sample, int k, int v) throws IndexOutOfBoundsException, IllegalArgumentException {
        needIndex(sample, cloud.size);
        needIndex(k, MEASURES);
        needValue(v, -MOST_MEASURE, MOST_MEASURE);
        int former = cloud.measures[k][sample];
        cloud.measures[k][sample] = v;
        return former;
    }

    public void covariance(int a, int b, int c) throws IllegalArgumentException {
        needValue(a, 1, MOST_COVARIANCE);
        needValue(b, -MOST_COVARIANCE, MOST_COVARIANCE);
        needValue(c, 1, MOST_COVARIANCE);
        needValue(a * c - b * b, 1, Integer.MAX_VALUE);
        cloud.a = a;
        cloud.b = b;
        cloud.c = c;
    }

    public long distance(int a, int b, int part) throws IndexOutOfBoundsException {
        needIndex(a, cloud.size);
        needIndex(b, cloud.size);
        needIndex(part, FRACTION_PARTS);
        return lessened(cloud.apartAbove(a, b), cloud.apartBelow(), part);
    }

    public int group(int sample, int cut) throws IndexOutOfBoundsException, IllegalArgumentException {
        needIndex(sample, cloud.size);
        needValue(cut, 0, Integer.MAX_VALUE);
        return cloud.lowestJoined(sample, cut);
    }

    public int standard(int day, int factor) throws IllegalArgumentException, IllegalStateException {
        needValue(day, 0, MOST_DAY);
        needValue(factor, 1, MOST_FACTOR);
        int place = drift.placeOf(day);
        needState(place < MOST_STANDARDS);
        drift.put(place, day, factor);
        return drift.size;
    }

    public long corrected(int day, int v) throws IllegalArgumentException {
        needValue(day, 0, MOST_DAY);
        needValue(v, 0, MOST_READING);
        int factor = drift.factorOn(day);
        return factor > 0 ? v * 1000L / factor : 0;
    }

    public int count(int what) throws IndexOutOfBoundsException {
        needIndex(what, COUNT_KINDS);
        switch (what) {
            case 0:
                return spectrum.channels;
            case 1:
                return found.size;
            case 2:
                return mixture.size;
            case 3:
                return cloud.size;
            default:
                return drift.size;
        }
    }

    private static void needIndex(int index, int size) {
        if (index < 0 || index >= size) {
            throw new IndexOutOfBoundsException("there is no such one");
        }
    }

    private static void needValue(int v, int low, int high) {
        if (v < low || v > high) {
            throw new IllegalArgumentException("a value is outside its bounds");
        }
    }

    private static void needState(boolean fit) {
        if (!fit) {
            throw new IllegalStateException("the state does not allow this call");
        }
    }

    private static int rootDown(int v) {
        int root = 0;
        // 9 channels of 500 times 9 have a root of 201: the bound stands above it
        while (root < 1000 && (root + 1) * (root + 1) <= v) {
            root++;
        }
        return root;
    }

    /** Part 0 (above) or 1 (below) of a fraction that is not below 0, in lowest terms. */
    private static long lessened(long above, long below, int part) {
        long divisor = greatestDivisor(above, below);
        long whole = part == 0 ? above : below;
        return divisor > 0 ? whole / divisor : whole;
    }

    private static long greatestDivisor(long x, long y) {
        long divisor = x;
        long rest = y;
        // two longs need fewer than 100 steps of Euclid's
        for (int step = 0; step < 200 && rest != 0; step++) {
            long next = divisor % rest;
            divisor = rest;
            rest = next;
        }
        return divisor;
    }

    private static final class Spectrum {
        final int channels;
        final int[] counts;
        final int[] ground;
        private final int[] former;

        Spectrum(int channels) {
            this.channels = channels;
            counts = new int[channels];
            ground = new int[channels];
            former = new int[channels];
        }

        int netAt(int channel) {
            return Math.max(0, counts[channel] - ground[channel]);
        }

        int groundSum() {
            int sum = 0;
            for (int i = 0; i < channels; i++) {
                sum += ground[i];
            }
            return sum;
        }

        void lowerFor(int rounds) {
            System.arraycopy(counts, 0, ground, 0, channels);
            for (int r = 1; r <= rounds; r++) {
                lowerOnce(r);
            }
        }

        private void lowerOnce(int r) {
            System.arraycopy(ground, 0, former, 0, channels);
            for (int i = r; i + r < channels; i++) {
                int mean = (former[i - r] + former[i + r]) / 2;
                ground[i] = Math.min(former[i], mean);
            }
        }
    }

    private static final class PeakList {
        static final int CHANNEL = 0;
        static final int NET = 1;
        static final int AREA = 2;
        static final int FIRST = 3;
        static final int LAST = 4;

        final int[][] rows;
        int size = 0;

        PeakList(int channels) {
            rows = new int[PEAK_PARTS][channels];
        }

        void lookFor(Spectrum spectrum, int level) {
            size = 0;
            for (int i = 0; i < spectrum.channels; i++) {
                if (spectrum.netAt(i) > level && isTop(spectrum, i)) {
                    keep(spectrum, i);
                }
            }
        }

        private static boolean isTop(Spectrum spectrum, int i) {
            int net = spectrum.netAt(i);
            if (i > 0 && net <= spectrum.netAt(i - 1)) {
                return false;
            }
            return i + 1 >= spectrum.channels || net >= spectrum.netAt(i + 1);
        }

        private void keep(Spectrum spectrum, int channel) {
            int first = firstOfSpan(spectrum, channel);
            int last = lastOfSpan(spectrum, channel);
            int area = 0;
            for (int i = first; i <= last; i++) {
                area += spectrum.netAt(i);
            }
            rows[CHANNEL][size] = channel;
            rows[NET][size] = spectrum.netAt(channel);
            rows[AREA][size] = area;
            rows[FIRST][size] = first;
            rows[LAST][size] = last;
            size++;
        }

        private static int firstOfSpan(Spectrum spectrum, int channel) {
            int first = channel;
            while (first > 0 && spectrum.netAt(first - 1) > 0
                    && spectrum.netAt(first - 1) < spectrum.netAt(first)) {
                first--;
            }
            return first;
        }

        private static int lastOfSpan(Spectrum spectrum, int channel) {
            int last = channel;
            while (last + 1 < spectrum.channels && spectrum.netAt(last + 1) > 0
                    && spectrum.netAt(last + 1) <= spectrum.netAt(last)) {
                last++;
            }
            return last;
        }
    }

    private static final class LineTable {
        final int[] sizes = new int[ELEMENTS];
        private final int[][] lines = new int[ELEMENTS][MOST_LINES];

        int add(int element, int channel) {
            lines[element][sizes[element]] = channel;
            sizes[element]++;
            return sizes[element];
        }

        int nearest(int channel, int tolerance) {
            int best = NONE;
            int bestGap = tolerance + 1;
            for (int e = 0; e < ELEMENTS; e++) {
                for (int k = 0; k < sizes[e]; k++) {
                    int gap = Math.abs(lines[e][k] - channel);
                    if (gap < bestGap) {
                        best = e;
                        bestGap = gap;
                    }
                }
            }
            return best;
        }

        boolean isAtOrNextTo(int element, int channel) {
            for (int k = 0; k < sizes[element]; k++) {
                if (Math.abs(lines[element][k] - channel) <= 1) {
                    return true;
                }
            }
            return false;
        }
    }

    /**
     * The libraries and their shares by the latest solving: above[k] / below. All of it is whole:
     * products of entries are at most 9600 and those with the net at most 240000, so that a
     * share's parts stay below 10^14 and the slopes of the test below 2 * 10^18.
     */
    private static final class Mixture {
        final int[][] entries;
        final long[] above = new long[MOST_LIBRARIES];
        long below = 1;
        int size = 0;
        boolean solved = false;
        private final long[][] products = new long[MOST_LIBRARIES][MOST_LIBRARIES];
        private final long[] matches = new long[MOST_LIBRARIES];
        private final long[][] system = new long[MOST_LIBRARIES][MOST_LIBRARIES];
        private final long[] right = new long[MOST_LIBRARIES];

        Mixture(int channels) {
            entries = new int[MOST_LIBRARIES][channels];
        }

        /** Takes in the entries and the net as they are now. */
        void weigh(Spectrum spectrum) {
            for (int i = 0; i < MOST_LIBRARIES; i++) {
                matches[i] = 0;
                for (int c = 0; c < spectrum.channels; c++) {
                    matches[i] += entries[i][c] * spectrum.netAt(c);
                }
                for (int j = 0; j < MOST_LIBRARIES; j++) {
                    products[i][j] = 0;
                    for (int c = 0; c < spectrum.channels; c++) {
                        products[i][j] += entries[i][c] * entries[j][c];
                    }
                }
            }
        }

        int solve() {
            solved = true;
            for (int k = 0; k < SETS.length; k++) {
                int set = SETS[k];
                if (set < 1 << size && solveAlone(set) && isLeast()) {
                    return set;
                }
            }
            // one of the sets always fits: this end is not reached
            return NONE;
        }

        /** Whether a set alone has a single solution, and that one nowhere below 0. */
        private boolean solveAlone(int set) {
            layOut(set);
            below = determinant(NONE);
            if (below <= 0) {
                return false;
            }
            boolean fit = true;
            for (int k = 0; k < MOST_LIBRARIES; k++) {
                above[k] = determinant(k);
                fit = fit && above[k] >= 0;
            }
            return fit;
        }

        /** A library that is not in the set gets the row x = 0, so that all sets are of one size. */
        private void layOut(int set) {
            for (int i = 0; i < MOST_LIBRARIES; i++) {
                right[i] = isIn(set, i) ? matches[i] : 0;
                for (int j = 0; j < MOST_LIBRARIES; j++) {
                    if (isIn(set, i) && isIn(set, j)) {
                        system[i][j] = products[i][j];
                    } else {
                        system[i][j] = i == j ? 1 : 0;
                    }
                }
            }
        }

        private static boolean isIn(int set, int library) {
            return (set >> library & 1) == 1;
        }

        /** The determinant of the system, with the right side in place of a column, or of NONE. */
        private long determinant(int replaced) {
            return cell(0, 0, replaced) * minor(1, 2, replaced)
                    - cell(0, 1, replaced) * minor(0, 2, replaced)
                    + cell(0, 2, replaced) * minor(0, 1, replaced);
        }

        private long minor(int left, int other, int replaced) {
            return cell(1, left, replaced) * cell(2, other, replaced)
                    - cell(1, other, replaced) * cell(2, left, replaced);
        }

        private long cell(int row, int column, int replaced) {
            return column == replaced ? right[row] : system[row][column];
        }

        /**
         * The sum of squares is convex: shares are the least exactly if it falls nowhere along a
         * library that may grow, and stays level along one that may also shrink.
         */
        boolean isLeast() {
            for (int i = 0; i < size; i++) {
                long slope = -matches[i] * below;
                for (int j = 0; j < MOST_LIBRARIES; j++) {
                    slope += products[i][j] * above[j];
                }
                if (slope < 0 || slope > 0 && above[i] > 0) {
                    return false;
                }
            }
            return true;
        }
    }

    private static final class SampleSet {
        final int[][] measures = new int[MEASURES][MOST_SAMPLES];
        int size = 0;
        long a = 1;
        long b = 0;
        long c = 1;
        private final boolean[] joined = new boolean[MOST_SAMPLES];

        long apartAbove(int one, int other) {
            long dx = measures[0][one] - measures[0][other];
            long dy = measures[1][one] - measures[1][other];
            return c * dx * dx - 2 * b * dx * dy + a * dy * dy;
        }

        long apartBelow() {
            return a * c - b * b;
        }

        int lowestJoined(int sample, int cut) {
            for (int i = 0; i < size; i++) {
                joined[i] = i == sample;
            }
            // a chain of joins is no longer than there are samples
            for (int pass = 0; pass < size; pass++) {
                joinOnce(cut);
            }
            for (int i = 0; i < sample; i++) {
                if (joined[i]) {
                    return i;
                }
            }
            return sample;
        }

        private void joinOnce(int cut) {
            long farthest = cut * apartBelow();
            for (int i = 0; i < size; i++) {
                for (int j = 0; j < size; j++) {
                    if (joined[i] && apartAbove(i, j) <= farthest) {
                        joined[j] = true;
                    }
                }
            }
        }
    }

    private static final class StandardList {
        int size = 0;
        private final int[] days = new int[MOST_STANDARDS];
        private final int[] factors = new int[MOST_STANDARDS];

        /** Where a day stands, or the place behind the last one. */
        int placeOf(int day) {
            for (int i = 0; i < size; i++) {
                if (days[i] == day) {
                    return i;
                }
            }
            return size;
        }

        void put(int place, int day, int factor) {
            days[place] = day;
            factors[place] = factor;
            size = Math.max(size, place + 1);
        }

        int factorOn(int day) {
            int ahead = NONE;
            int behind = NONE;
            for (int i = 0; i < size; i++) {
                if (days[i] <= day && (ahead == NONE || days[i] > days[ahead])) {
                    ahead = i;
                }
                if (days[i] >= day && (behind == NONE || days[i] < days[behind])) {
                    behind = i;
                }
            }
            if (ahead == NONE) {
                return behind == NONE ? PLAIN_FACTOR : factors[behind];
            }
            return behind == NONE ? factors[ahead] : onLine(ahead, behind, day);
        }

        private int onLine(int ahead, int behind, int day) {
            int length = days[behind] - days[ahead];
            if (length <= 0) {
                return factors[ahead];
            }
            int rise = (factors[behind] - factors[ahead]) * (day - days[ahead]);
            return factors[ahead] + Math.floorDiv(rise, length);
        }
    }
}
