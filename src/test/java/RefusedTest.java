import java.util.ArrayList;
import java.util.List;
import java.util.function.Function;
import java.util.function.Supplier;
import java.util.function.ToLongFunction;

/**
 * Refused calls of each promise, in objects that are new, in use, and full: each throws what the
 * document says, and an object that has refused it answers all further calls as its twin does.
 */
public final class RefusedTest {
    private static final Checks CHECKS = new Checks();
    private static final int LOW = Checks.LOW;
    private static final int HIGH = Checks.HIGH;
    private static final Class<?> INDEX = Checks.INDEX;
    private static final Class<?> ARGUMENT = Checks.ARGUMENT;
    private static final Class<?> STATE = Checks.STATE;

    // each on a twin of its own, so that no object is asked for more than 512 calls
    private static final List<Function<SpectrumParts, String>> PROBES = List.of(RefusedTest::spectrumOf, RefusedTest::linesOf,
        RefusedTest::librariesOf, RefusedTest::distancesOf, RefusedTest::samplesOf, RefusedTest::standardsOf);

    private final String state;
    private final Supplier<SpectrumParts> maker;

    private RefusedTest(String state, Supplier<SpectrumParts> maker) {
        this.state = state;
        this.maker = maker;
    }

    public static void main(String[] args) {
        indexAheadOfArgument();
        indexAheadOfState();
        argumentAheadOfState();
        CHECKS.sentence("Such a call changes nothing. (a new object)");
        RefusedTest fresh = new RefusedTest("new", () -> new SpectrumParts(4));
        fresh.holds(4, 0, 0, 0, 0);
        fresh.inAnyState();
        fresh.whenNew();
        CHECKS.sentence("Such a call changes nothing. (an object in use)");
        RefusedTest used = new RefusedTest("used", RefusedTest::used);
        used.holds(6, 2, 2, 3, 2);
        used.inAnyState();
        used.whenUsed();
        CHECKS.sentence("Such a call changes nothing. (a library, and no parts())");
        new RefusedTest("unsolved", RefusedTest::unsolved).whenUnsolved();
        CHECKS.sentence("Such a call changes nothing. (a full object)");
        RefusedTest full = new RefusedTest("full", RefusedTest::full);
        full.holds(24, 12, 3, 12, 10);
        full.inAnyState();
        full.whenFull();
        CHECKS.end();
    }

    /** 6 channels, 2 peaks, 3 lines of element 1 and 1 of element 2, 2 libraries, 3 samples, 2 standards. */
    private static SpectrumParts used() {
        SpectrumParts x = Make.spectrum(9, 2, 6, 1, 8, 3);
        x.background(1);
        Make.tell(x, 9, 7, 30, 1, 40, 11);
        x.peaks(5);
        for (int channel = 1; channel <= 3; channel++) {
            x.line(1, channel);
        }
        x.line(2, 5);
        Make.addLibrary(x, 1, 2, 3, 0, 0, 1);
        Make.addLibrary(x, 0, 0, 1, 1, 5, 0);
        x.parts();
        x.told(5, 12);
        Make.addSample(x, 3, 4);
        Make.addSample(x, -20, 1);
        Make.addSample(x, 5, 5);
        x.covariance(5, 1, 3);
        x.standard(300, 900);
        x.standard(100, 1200);
        return x;
    }

    private static SpectrumParts unsolved() {
        SpectrumParts x = Make.spectrum(4, 5, 6, 7);
        Make.addLibrary(x, 1, 2, 3, 4);
        return x;
    }

    /** 24 channels, 12 peaks, 3 lines of each element, 3 libraries, 12 samples, 10 standards. */
    private static SpectrumParts full() {
        SpectrumParts x = new SpectrumParts(24);
        for (int i = 0; i < 24; i++) {
            x.told(i, i % 2 == 0 ? 400 + i : 7 * i);
        }
        x.background(3);
        // the first and the last channel are never lowered
        x.told(0, 500);
        x.told(23, 1);
        for (int e = 0; e < 8; e++) {
            x.line(e, e);
            x.line(e, 23 - 2 * e);
            x.line(e, 3 * e);
        }
        for (int k = 0; k < 3; k++) {
            Make.addLibrary(x, k, 2 * k, 9 - k, 1, 4 + k * k, 20);
        }
        x.parts();
        x.peaks(0);
        for (int i = 0; i < 12; i++) {
            Make.addSample(x, 50 * i - 200, i * i);
        }
        x.covariance(900, -7, 40);
        for (int i = 0; i < 10; i++) {
            x.standard(10000 * ((3 * i) % 10) + 5, 800 + 55 * i);
        }
        return x;
    }

    /** The state is the one that its refused calls are meant for. */
    private void holds(int... counts) {
        for (int i = 0; i < counts.length; i++) {
            int what = i;
            CHECKS.due(state + ": count(" + what + ")", counts[what], () -> maker.get().count(what));
        }
    }

    private void refused(String call, Class<?> exception, ToLongFunction<SpectrumParts> got) {
        for (Function<SpectrumParts, String> probe : PROBES) {
            SpectrumParts twin = maker.get();
            SpectrumParts x = maker.get();
            CHECKS.refuses(state + ": " + call, exception, () -> got.applyAsLong(x));
            CHECKS.told(state + ": all answers behind " + call, probe.apply(twin), probe.apply(x));
        }
    }

    private static String spectrumOf(SpectrumParts x) {
        List<String> all = new ArrayList<>();
        for (int i = 0; i < 5; i++) {
            int what = i;
            all.add(Checks.outcome(() -> x.count(what)));
        }
        for (int k = 0; k < x.count(1); k++) {
            for (int what = 0; what < 5; what++) {
                all.add("p" + x.peak(k, what));
            }
        }
        for (int i = 0; i < x.count(0); i++) {
            all.add("b" + x.lowered(i) + " c" + x.told(i, 0));
        }
        all.add("sum " + x.background(0) + " tops " + x.peaks(0));
        return all.toString();
    }

    private static String linesOf(SpectrumParts x) {
        List<String> all = new ArrayList<>();
        for (int k = 0; k < x.count(1); k++) {
            all.add(x.element(k, 0) + " " + x.element(k, 1) + " " + x.element(k, 24));
        }
        for (int i = 0; i < 8; i++) {
            int e = i;
            all.add("d" + x.detect(e));
            for (int k = 0; k < 4; k++) {
                all.add(Checks.outcome(() -> x.line(e, 0)));
            }
            all.add("d" + x.detect(e));
        }
        return all.toString();
    }

    private static String librariesOf(SpectrumParts x) {
        List<String> all = new ArrayList<>();
        addShares(x, all);
        for (int k = 0; k < 4; k++) {
            all.add(Checks.outcome(x::library));
        }
        addShares(x, all);
        all.add("set " + x.parts());
        addShares(x, all);
        for (int k = 0; k < 3; k++) {
            for (int i = 0; i < x.count(0); i++) {
                all.add("e" + x.entry(k, i, 0));
            }
        }
        return all.toString();
    }

    private static void addShares(SpectrumParts x, List<String> all) {
        all.add(Checks.outcome(() -> Make.least(x)));
        for (int k = 0; k < 3; k++) {
            int library = k;
            all.add(Checks.outcome(() -> x.share(library, 0)) + "/" + Checks.outcome(() -> x.share(library, 1)));
        }
    }

    private static String distancesOf(SpectrumParts x) {
        List<String> all = new ArrayList<>();
        int size = x.count(3);
        for (int i = 0; i < size; i++) {
            for (int j = 0; j < i; j++) {
                all.add(x.distance(i, j, 0) + "/" + x.distance(i, j, 1));
            }
        }
        return all.toString();
    }

    private static String samplesOf(SpectrumParts x) {
        List<String> all = new ArrayList<>();
        int size = x.count(3);
        for (int i = 0; i < size; i++) {
            all.add(x.group(i, 0) + " " + x.group(i, 10) + " " + x.group(i, 500));
        }
        for (int i = 0; i < size; i++) {
            all.add("m" + x.measured(i, 0, 0) + " " + x.measured(i, 1, 0));
        }
        for (int i = 0; i <= 12; i++) {
            all.add(Checks.outcome(x::sample));
        }
        for (int i = size; i < 12; i++) {
            all.add("m" + x.measured(i, 0, 0) + " " + x.measured(i, 1, 0));
        }
        return all.toString();
    }

    private static String standardsOf(SpectrumParts x) {
        List<String> all = new ArrayList<>();
        for (int day : new int[] {0, 1, 5, 6, 99, 100, 101, 299, 300, 301, 90005, 99999, 100000}) {
            all.add("r" + x.corrected(day, 1000000));
        }
        for (int day = 3000; day < 100000; day += 5000) {
            all.add("r" + x.corrected(day, 1000000));
        }
        for (int i = 0; i < 11; i++) {
            int day = i;
            all.add(Checks.outcome(() -> x.standard(day, 1)));
        }
        return all.toString();
    }

    private static void indexAheadOfArgument() {
        CHECKS.sentence("IndexOutOfBoundsException: there is no such .. IllegalArgumentException, then ..");
        SpectrumParts x = used();
        CHECKS.refuses("told: channel, v", INDEX, () -> x.told(6, 501));
        CHECKS.refuses("element: peak, tolerance", INDEX, () -> x.element(2, 25));
        CHECKS.refuses("entry: library, v", INDEX, () -> x.entry(2, 0, 21));
        CHECKS.refuses("entry: channel, v", INDEX, () -> x.entry(1, 6, 21));
        CHECKS.refuses("measured: sample, v", INDEX, () -> x.measured(3, 0, 1001));
        CHECKS.refuses("measured: k, v", INDEX, () -> x.measured(2, 2, 1001));
        CHECKS.refuses("group: sample, cut", INDEX, () -> x.group(3, -1));
    }

    private static void indexAheadOfState() {
        CHECKS.sentence("IndexOutOfBoundsException: there is no such .., then IllegalStateException");
        SpectrumParts x = used();
        CHECKS.refuses("line: channel, three lines", INDEX, () -> x.line(1, 6));
        CHECKS.refuses("line: channel below, three lines", INDEX, () -> x.line(1, -1));
        SpectrumParts y = unsolved();
        CHECKS.refuses("share: library, no parts()", INDEX, () -> y.share(1, 0));
        CHECKS.refuses("share: part, no parts()", INDEX, () -> y.share(0, 2));
        CHECKS.refuses("share: no libraries, no parts()", INDEX, () -> new SpectrumParts(4).share(0, 0));
    }

    private static void argumentAheadOfState() {
        CHECKS.sentence("IllegalArgumentException, then IllegalStateException, as told.");
        SpectrumParts x = full();
        CHECKS.refuses("standard: day below, ten days", ARGUMENT, () -> x.standard(-1, 5));
        CHECKS.refuses("standard: day above, ten days", ARGUMENT, () -> x.standard(100001, 5));
        CHECKS.refuses("standard: factor below, ten days", ARGUMENT, () -> x.standard(50, 0));
        CHECKS.refuses("standard: factor above, ten days", ARGUMENT, () -> x.standard(50, 10001));
        CHECKS.refuses("standard: ten days", STATE, () -> x.standard(50, 10000));
    }

    private void inAnyState() {
        spectrumInAnyState();
        linesInAnyState();
        librariesInAnyState();
        samplesInAnyState();
        standardsInAnyState();
    }

    private void spectrumInAnyState() {
        for (int channel : new int[] {LOW, -1, 24, HIGH}) {
            refused("told(" + channel + ", 5)", INDEX, x -> x.told(channel, 5));
            refused("told(" + channel + ", 501)", INDEX, x -> x.told(channel, 501));
            refused("lowered(" + channel + ")", INDEX, x -> x.lowered(channel));
        }
        for (int v : new int[] {LOW, -1, 501, HIGH}) {
            refused("told(0, " + v + ")", ARGUMENT, x -> x.told(0, v));
            refused("told(3, " + v + ")", ARGUMENT, x -> x.told(3, v));
        }
        for (int rounds : new int[] {LOW, -1, 13, HIGH}) {
            refused("background(" + rounds + ")", ARGUMENT, x -> x.background(rounds));
        }
        for (int level : new int[] {LOW, -1}) {
            refused("peaks(" + level + ")", ARGUMENT, x -> x.peaks(level));
        }
        for (int k : new int[] {LOW, -1, 12, HIGH}) {
            refused("peak(" + k + ", 0)", INDEX, x -> x.peak(k, 0));
        }
        for (int what : new int[] {LOW, -1, 5, HIGH}) {
            refused("peak(0, " + what + ")", INDEX, x -> x.peak(0, what));
            refused("count(" + what + ")", INDEX, x -> x.count(what));
        }
    }

    private void linesInAnyState() {
        for (int element : new int[] {LOW, -1, 8, HIGH}) {
            refused("line(" + element + ", 0)", INDEX, x -> x.line(element, 0));
            refused("detect(" + element + ")", INDEX, x -> x.detect(element));
        }
        for (int channel : new int[] {LOW, -1, 24, HIGH}) {
            refused("line(1, " + channel + ")", INDEX, x -> x.line(1, channel));
        }
        for (int peak : new int[] {LOW, -1, 12, HIGH}) {
            refused("element(" + peak + ", 0)", INDEX, x -> x.element(peak, 0));
            refused("element(" + peak + ", 25)", INDEX, x -> x.element(peak, 25));
        }
    }

    private void librariesInAnyState() {
        for (int library : new int[] {LOW, -1, 3, HIGH}) {
            refused("entry(" + library + ", 0, 1)", INDEX, x -> x.entry(library, 0, 1));
            refused("entry(" + library + ", 0, 21)", INDEX, x -> x.entry(library, 0, 21));
            refused("share(" + library + ", 0)", INDEX, x -> x.share(library, 0));
        }
        for (int wrong : new int[] {LOW, -1, 24, HIGH}) {
            refused("entry(0, " + wrong + ", 1)", INDEX, x -> x.entry(0, wrong, 1));
            refused("entry(0, " + wrong + ", 21)", INDEX, x -> x.entry(0, wrong, 21));
            refused("share(0, " + wrong + ")", INDEX, x -> x.share(0, wrong));
        }
        refused("share(0, 2)", INDEX, x -> x.share(0, 2));
    }

    private void samplesInAnyState() {
        for (int sample : new int[] {LOW, -1, 12, HIGH}) {
            refused("measured(" + sample + ", 0, 1)", INDEX, x -> x.measured(sample, 0, 1));
            refused("measured(" + sample + ", 0, 1001)", INDEX, x -> x.measured(sample, 0, 1001));
            refused("distance(" + sample + ", 0, 0)", INDEX, x -> x.distance(sample, 0, 0));
            refused("distance(0, " + sample + ", 0)", INDEX, x -> x.distance(0, sample, 0));
            refused("group(" + sample + ", 0)", INDEX, x -> x.group(sample, 0));
            refused("group(" + sample + ", -1)", INDEX, x -> x.group(sample, -1));
        }
        for (int k : new int[] {LOW, -1, 2, HIGH}) {
            refused("measured(0, " + k + ", 1)", INDEX, x -> x.measured(0, k, 1));
            refused("measured(0, " + k + ", -1001)", INDEX, x -> x.measured(0, k, -1001));
            refused("distance(0, 0, " + k + ")", INDEX, x -> x.distance(0, 0, k));
        }
        int[][] covariances = {{0, 0, 1}, {1001, 0, 1}, {1, 0, 0}, {1, 0, 1001}, {1000, 1001, 1000}, {1000, -1001, 1000}, {1, 1, 1},
            {4, -2, 1}, {1, 1000, 1}, {-1, 0, -1}, {1, 65536, 1}, {1, LOW, 1}, {HIGH, 0, HIGH}};
        for (int[] c : covariances) {
            refused("covariance(" + c[0] + ", " + c[1] + ", " + c[2] + ")", ARGUMENT, x -> Make.covariance(x, c[0], c[1], c[2]));
        }
    }

    private void standardsInAnyState() {
        for (int day : new int[] {LOW, -1, 100001, HIGH}) {
            refused("standard(" + day + ", 5)", ARGUMENT, x -> x.standard(day, 5));
            refused("corrected(" + day + ", 5)", ARGUMENT, x -> x.corrected(day, 5));
        }
        for (int factor : new int[] {LOW, -1, 0, 10001, HIGH}) {
            refused("standard(50, " + factor + ")", ARGUMENT, x -> x.standard(50, factor));
            refused("standard(5, " + factor + ")", ARGUMENT, x -> x.standard(5, factor));
            refused("standard(300, " + factor + ")", ARGUMENT, x -> x.standard(300, factor));
        }
        for (int v : new int[] {LOW, -1, 1000001, HIGH}) {
            refused("corrected(5, " + v + ")", ARGUMENT, x -> x.corrected(5, v));
        }
    }

    private void whenNew() {
        refused("told(4, 5)", INDEX, x -> x.told(4, 5));
        refused("lowered(4)", INDEX, x -> x.lowered(4));
        refused("peak(0, 0)", INDEX, x -> x.peak(0, 0));
        refused("line(0, 4)", INDEX, x -> x.line(0, 4));
        refused("element(0, 0)", INDEX, x -> x.element(0, 0));
        refused("element(0, 25)", INDEX, x -> x.element(0, 25));
        refused("entry(0, 0, 1)", INDEX, x -> x.entry(0, 0, 1));
        refused("share(0, 0)", INDEX, x -> x.share(0, 0));
        refused("least()", STATE, Make::least);
        refused("measured(0, 0, 1)", INDEX, x -> x.measured(0, 0, 1));
        refused("distance(0, 0, 0)", INDEX, x -> x.distance(0, 0, 0));
        refused("group(0, 0)", INDEX, x -> x.group(0, 0));
        refused("group(0, -1)", INDEX, x -> x.group(0, -1));
    }

    private void whenUsed() {
        refused("told(6, 5)", INDEX, x -> x.told(6, 5));
        refused("lowered(6)", INDEX, x -> x.lowered(6));
        refused("peak(2, 0)", INDEX, x -> x.peak(2, 0));
        refused("peak(1, 5)", INDEX, x -> x.peak(1, 5));
        refused("line(2, 6)", INDEX, x -> x.line(2, 6));
        refused("line(1, 6)", INDEX, x -> x.line(1, 6));
        refused("line(1, 0)", STATE, x -> x.line(1, 0));
        refused("element(2, 0)", INDEX, x -> x.element(2, 0));
        refused("entry(2, 0, 1)", INDEX, x -> x.entry(2, 0, 1));
        refused("entry(1, 6, 1)", INDEX, x -> x.entry(1, 6, 1));
        refused("entry(1, 6, 21)", INDEX, x -> x.entry(1, 6, 21));
        refused("share(2, 0)", INDEX, x -> x.share(2, 0));
        refused("measured(3, 0, 1)", INDEX, x -> x.measured(3, 0, 1));
        refused("distance(3, 0, 0)", INDEX, x -> x.distance(3, 0, 0));
        refused("distance(0, 3, 0)", INDEX, x -> x.distance(0, 3, 0));
        refused("group(3, 0)", INDEX, x -> x.group(3, 0));
        valuesWhenThereIsOne();
    }

    private void valuesWhenThereIsOne() {
        for (int tolerance : new int[] {LOW, -1, 25, HIGH}) {
            refused("element(0, " + tolerance + ")", ARGUMENT, x -> x.element(0, tolerance));
        }
        for (int v : new int[] {LOW, -1, 21, HIGH}) {
            refused("entry(0, 0, " + v + ")", ARGUMENT, x -> x.entry(0, 0, v));
            refused("entry(1, 3, " + v + ")", ARGUMENT, x -> x.entry(1, 3, v));
        }
        for (int v : new int[] {LOW, -1001, 1001, HIGH}) {
            refused("measured(2, 0, " + v + ")", ARGUMENT, x -> x.measured(2, 0, v));
            refused("measured(2, 1, " + v + ")", ARGUMENT, x -> x.measured(2, 1, v));
        }
        for (int cut : new int[] {LOW, -1}) {
            refused("group(2, " + cut + ")", ARGUMENT, x -> x.group(2, cut));
        }
    }

    private void whenUnsolved() {
        refused("share(0, 0)", STATE, x -> x.share(0, 0));
        refused("share(0, 1)", STATE, x -> x.share(0, 1));
        refused("share(0, 2)", INDEX, x -> x.share(0, 2));
        refused("share(1, 0)", INDEX, x -> x.share(1, 0));
        refused("least()", STATE, Make::least);
    }

    private void whenFull() {
        for (int element = 0; element < 8; element++) {
            int e = element;
            refused("line(" + e + ", 0)", STATE, x -> x.line(e, 0));
            refused("line(" + e + ", 24)", INDEX, x -> x.line(e, 24));
        }
        refused("library()", STATE, SpectrumParts::library);
        refused("sample()", STATE, SpectrumParts::sample);
        for (int day : new int[] {0, 4, 6, 99999, 100000}) {
            refused("standard(" + day + ", 5)", STATE, x -> x.standard(day, 5));
            refused("standard(" + day + ", 10001)", ARGUMENT, x -> x.standard(day, 10001));
        }
        valuesWhenThereIsOne();
    }
}
