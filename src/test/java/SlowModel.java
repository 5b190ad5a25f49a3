import java.math.BigInteger;
import java.util.ArrayList;
import java.util.List;
import java.util.Map;
import java.util.TreeMap;
import java.util.TreeSet;

/**
 * The document once more, by other ways than the program's: big fractions all through, shares by
 * comparing the sums of squares themselves, groups by closing a relation, standards in a tree.
 */
final class SlowModel {
    private final int channels;
    private final int[] counts;
    private int[] ground;
    private List<int[]> peaks = new ArrayList<>();
    private final List<List<Integer>> lines = new ArrayList<>();
    private final List<int[]> libraries = new ArrayList<>();
    private Fraction[] shares = null;
    private final List<int[]> samples = new ArrayList<>();
    private int[] covariance = {1, 0, 1};
    private final TreeMap<Integer, Integer> standards = new TreeMap<>();

    SlowModel(int given) {
        channels = given < 4 ? 4 : given > 24 ? 24 : given;
        counts = new int[channels];
        ground = new int[channels];
        for (int e = 0; e < 8; e++) {
            lines.add(new ArrayList<>());
        }
    }

    private static void index(int i, int size) {
        if (!(0 <= i && i < size)) {
            throw new IndexOutOfBoundsException();
        }
    }

    private static void argument(boolean right) {
        if (!right) {
            throw new IllegalArgumentException();
        }
    }

    private static void state(boolean right) {
        if (!right) {
            throw new IllegalStateException();
        }
    }

    private int net(int i) {
        return i < 0 || i >= channels || counts[i] < ground[i] ? 0 : counts[i] - ground[i];
    }

    int told(int channel, int v) {
        index(channel, channels);
        argument(v >= 0 && v <= 500);
        int was = counts[channel];
        counts[channel] = v;
        return was;
    }

    int background(int rounds) {
        argument(rounds >= 0 && rounds <= 12);
        int sum = 0;
        int[] made = new int[channels];
        for (int i = 0; i < channels; i++) {
            made[i] = groundAfter(rounds, i, new TreeMap<>());
            sum += made[i];
        }
        ground = made;
        return sum;
    }

    private int groundAfter(int rounds, int i, Map<Integer, Integer> known) {
        if (rounds == 0) {
            return counts[i];
        }
        Integer before = known.get(rounds * 100 + i);
        if (before != null) {
            return before;
        }
        int own = groundAfter(rounds - 1, i, known);
        if (i - rounds >= 0 && i + rounds < channels) {
            int both = groundAfter(rounds - 1, i - rounds, known) + groundAfter(rounds - 1, i + rounds, known);
            own = Math.min(own, both >> 1);
        }
        known.put(rounds * 100 + i, own);
        return own;
    }

    int lowered(int channel) {
        index(channel, channels);
        return ground[channel];
    }

    int peaks(int level) {
        argument(level >= 0);
        peaks = new ArrayList<>();
        for (int i = 0; i < channels; i++) {
            boolean rises = i == 0 || net(i) > net(i - 1);
            boolean rests = i == channels - 1 || net(i + 1) <= net(i);
            if (net(i) > level && rises && rests) {
                peaks.add(rowOf(i));
            }
        }
        return peaks.size();
    }

    private int[] rowOf(int channel) {
        int area = net(channel);
        int first = channel;
        for (int i = channel - 1; net(i) > 0 && net(i) < net(i + 1); i--) {
            first = i;
            area += net(i);
        }
        int last = channel;
        for (int i = channel + 1; net(i) > 0 && net(i) <= net(i - 1); i++) {
            last = i;
            area += net(i);
        }
        return new int[] {channel, net(channel), area, first, last};
    }

    int peak(int k, int what) {
        index(k, peaks.size());
        index(what, 5);
        return peaks.get(k)[what];
    }

    int line(int element, int channel) {
        index(element, 8);
        index(channel, channels);
        state(lines.get(element).size() < 3);
        lines.get(element).add(channel);
        return lines.get(element).size();
    }

    int element(int peak, int tolerance) {
        index(peak, peaks.size());
        argument(tolerance >= 0 && tolerance <= 24);
        int channel = peaks.get(peak)[0];
        for (int gap = 0; gap <= tolerance; gap++) {
            for (int e = 0; e < 8; e++) {
                if (lines.get(e).contains(channel - gap) || lines.get(e).contains(channel + gap)) {
                    return e;
                }
            }
        }
        return -1;
    }

    int detect(int element) {
        index(element, 8);
        TreeSet<Integer> near = new TreeSet<>();
        for (int line : lines.get(element)) {
            near.add(line - 1);
            near.add(line);
            near.add(line + 1);
        }
        long sum = 0;
        for (int channel : near) {
            sum += channel >= 0 && channel < channels ? ground[channel] : 0;
        }
        return BigInteger.valueOf(9 * sum).sqrt().intValueExact();
    }

    int library() {
        state(libraries.size() < 3);
        libraries.add(new int[channels]);
        return libraries.size() - 1;
    }

    int entry(int library, int channel, int v) {
        index(library, libraries.size());
        index(channel, channels);
        argument(v >= 0 && v <= 20);
        int was = libraries.get(library)[channel];
        libraries.get(library)[channel] = v;
        return was;
    }

    /** The shares of a set alone, by elimination, or null if they are not the only ones. */
    private Fraction[] solvedAlone(int set) {
        List<Integer> in = new ArrayList<>();
        for (int k = 0; k < libraries.size(); k++) {
            if ((set & 1 << k) != 0) {
                in.add(k);
            }
        }
        int n = in.size();
        Fraction[][] rows = new Fraction[n][n + 1];
        for (int i = 0; i < n; i++) {
            for (int j = 0; j <= n; j++) {
                long sum = 0;
                for (int c = 0; c < channels; c++) {
                    sum += (long) libraries.get(in.get(i))[c] * (j == n ? net(c) : libraries.get(in.get(j))[c]);
                }
                rows[i][j] = Fraction.of(sum, 1);
            }
        }
        if (!eliminated(rows)) {
            return null;
        }
        Fraction[] solved = new Fraction[3];
        java.util.Arrays.fill(solved, Fraction.ZERO);
        for (int i = 0; i < n; i++) {
            solved[in.get(i)] = rows[i][n];
        }
        return solved;
    }

    private static boolean eliminated(Fraction[][] rows) {
        int n = rows.length;
        for (int p = 0; p < n; p++) {
            int from = p;
            while (from < n && rows[from][p].above().signum() == 0) {
                from++;
            }
            if (from == n) {
                return false;
            }
            Fraction[] pivot = rows[from];
            rows[from] = rows[p];
            rows[p] = pivot;
            Fraction lead = pivot[p];
            for (int j = 0; j <= n; j++) {
                pivot[j] = pivot[j].over(lead);
            }
            for (int i = 0; i < n; i++) {
                Fraction factor = rows[i][p];
                for (int j = 0; i != p && j <= n; j++) {
                    rows[i][j] = rows[i][j].minus(factor.times(pivot[j]));
                }
            }
        }
        return true;
    }

    private Fraction squares(Fraction[] x) {
        Fraction sum = Fraction.ZERO;
        for (int c = 0; c < channels; c++) {
            Fraction left = Fraction.of(net(c), 1);
            for (int k = 0; k < libraries.size(); k++) {
                left = left.minus(x[k].times(Fraction.of(libraries.get(k)[c], 1)));
            }
            sum = sum.plus(left.times(left));
        }
        return sum;
    }

    /** Of each set the shares, if they are the only ones and none is below 0. */
    private Fraction[][] candidates() {
        Fraction[][] all = new Fraction[1 << libraries.size()][];
        for (int set = 0; set < all.length; set++) {
            Fraction[] x = solvedAlone(set);
            boolean fit = x != null;
            for (int k = 0; fit && k < 3; k++) {
                fit = x[k].above().signum() >= 0;
            }
            all[set] = fit ? x : null;
        }
        return all;
    }

    private Fraction leastSquares(Fraction[][] candidates) {
        Fraction least = null;
        for (Fraction[] x : candidates) {
            if (x != null && (least == null || squares(x).compareTo(least) < 0)) {
                least = squares(x);
            }
        }
        return least;
    }

    int parts() {
        Fraction[][] all = candidates();
        Fraction least = leastSquares(all);
        int best = -1;
        for (int set = 0; set < all.length; set++) {
            boolean fewer = best < 0 || Integer.bitCount(set) < Integer.bitCount(best);
            if (fewer && all[set] != null && squares(all[set]).equals(least)) {
                best = set;
            }
        }
        shares = all[best];
        return best;
    }

    long share(int library, int part) {
        index(library, libraries.size());
        index(part, 2);
        state(shares != null);
        return shares[library].part(part).longValueExact();
    }

    boolean least() {
        state(shares != null);
        return squares(shares).equals(leastSquares(candidates()));
    }

    int sample() {
        state(samples.size() < 12);
        samples.add(new int[2]);
        return samples.size() - 1;
    }

    int measured(int sample, int k, int v) {
        index(sample, samples.size());
        index(k, 2);
        argument(v >= -1000 && v <= 1000);
        int was = samples.get(sample)[k];
        samples.get(sample)[k] = v;
        return was;
    }

    int covariance(int a, int b, int c) {
        argument(a >= 1 && a <= 1000 && c >= 1 && c <= 1000 && b >= -1000 && b <= 1000);
        argument(a * c > b * b);
        covariance = new int[] {a, b, c};
        return 0;
    }

    private Fraction apart(int p, int q) {
        Fraction a = Fraction.of(covariance[0], 1);
        Fraction b = Fraction.of(covariance[1], 1);
        Fraction c = Fraction.of(covariance[2], 1);
        Fraction dx = Fraction.of(samples.get(p)[0] - samples.get(q)[0], 1);
        Fraction dy = Fraction.of(samples.get(p)[1] - samples.get(q)[1], 1);
        // by the inverse of the covariance, entry by entry
        Fraction det = a.times(c).minus(b.times(b));
        Fraction row0 = c.over(det).times(dx).minus(b.over(det).times(dy));
        Fraction row1 = a.over(det).times(dy).minus(b.over(det).times(dx));
        return dx.times(row0).plus(dy.times(row1));
    }

    long distance(int a, int b, int part) {
        index(a, samples.size());
        index(b, samples.size());
        index(part, 2);
        return apart(a, b).part(part).longValueExact();
    }

    int group(int sample, int cut) {
        int n = samples.size();
        index(sample, n);
        argument(cut >= 0);
        boolean[][] joined = new boolean[n][n];
        for (int i = 0; i < n; i++) {
            for (int j = 0; j < n; j++) {
                joined[i][j] = apart(i, j).compareTo(Fraction.of(cut, 1)) <= 0;
            }
        }
        for (int by = 0; by < n; by++) {
            for (int i = 0; i < n; i++) {
                for (int j = 0; j < n; j++) {
                    joined[i][j] |= joined[i][by] && joined[by][j];
                }
            }
        }
        int lowest = 0;
        while (!joined[sample][lowest]) {
            lowest++;
        }
        return lowest;
    }

    int standard(int day, int factor) {
        argument(day >= 0 && day <= 100000 && factor >= 1 && factor <= 10000);
        state(standards.size() < 10 || standards.containsKey(day));
        standards.put(day, factor);
        return standards.size();
    }

    private int factorOn(int day) {
        Map.Entry<Integer, Integer> ahead = standards.floorEntry(day);
        Map.Entry<Integer, Integer> behind = standards.ceilingEntry(day);
        if (ahead == null && behind == null) {
            return 1000;
        }
        if (ahead == null || behind == null) {
            return (ahead == null ? behind : ahead).getValue();
        }
        if (ahead.getKey().equals(behind.getKey())) {
            return ahead.getValue();
        }
        Fraction way = Fraction.of(day - ahead.getKey(), behind.getKey() - ahead.getKey());
        Fraction left = Fraction.ONE.minus(way).times(Fraction.of(ahead.getValue(), 1));
        return left.plus(way.times(Fraction.of(behind.getValue(), 1))).roundedDown().intValueExact();
    }

    long corrected(int day, int v) {
        argument(day >= 0 && day <= 100000 && v >= 0 && v <= 1000000);
        return Fraction.of(v * 1000L, factorOn(day)).roundedDown().longValueExact();
    }

    int count(int what) {
        index(what, 5);
        int[] all = {channels, peaks.size(), libraries.size(), samples.size(), standards.size()};
        return all[what];
    }
}
