/** Each promise by itself: ordinary inputs, the edges that the document names, wrong inputs. */
public final class PromiseTest {
    private static final Checks CHECKS = new Checks();
    private static final int LOW = Checks.LOW;
    private static final int HIGH = Checks.HIGH;

    public static void main(String[] args) {
        newObject();
        told();
        background();
        lowered();
        peaks();
        peak();
        line();
        element();
        detect();
        library();
        entry();
        parts();
        partsOfSets();
        partsAtTheBounds();
        share();
        least();
        sample();
        measured();
        covariance();
        distance();
        group();
        standard();
        corrected();
        count();
        CHECKS.end();
    }

    private static void duePeak(SpectrumParts x, int k, int... rows) {
        for (int what = 0; what < rows.length; what++) {
            int w = what;
            CHECKS.due("peak(" + k + ", " + w + ")", rows[w], () -> x.peak(k, w));
        }
    }

    private static void dueShare(SpectrumParts x, int library, long above, long below) {
        CHECKS.due("share(" + library + ", 0)", above, () -> x.share(library, 0));
        CHECKS.due("share(" + library + ", 1)", below, () -> x.share(library, 1));
    }

    private static void dueDistance(SpectrumParts x, int a, int b, long above, long below) {
        CHECKS.due("distance(" + a + ", " + b + ", 0)", above, () -> x.distance(a, b, 0));
        CHECKS.due("distance(" + a + ", " + b + ", 1)", below, () -> x.distance(a, b, 1));
    }

    private static void newObject() {
        int[][] clamped = {{LOW, 4}, {-1, 4}, {0, 4}, {3, 4}, {4, 4}, {5, 5}, {23, 23}, {24, 24}, {25, 24}, {HIGH, 24}};
        for (int[] pair : clamped) {
            SpectrumParts x = new SpectrumParts(pair[0]);
            CHECKS.due("channels of " + pair[0], pair[1], () -> x.count(0));
            CHECKS.due("the last channel is there", 0, () -> x.lowered(pair[1] - 1));
            CHECKS.refuses("there is no further channel", Checks.INDEX, () -> x.lowered(pair[1]));
            for (int what = 1; what <= 4; what++) {
                int w = what;
                CHECKS.due("a new count(" + w + ")", 0, () -> x.count(w));
            }
            CHECKS.due("a new detect", 0, () -> x.detect(0));
            CHECKS.due("a new peaks(0)", 0, () -> x.peaks(0));
            CHECKS.due("the first line", 1, () -> x.line(7, 0));
        }
        CHECKS.due("NONE", -1, () -> SpectrumParts.NONE);
    }

    private static void told() {
        SpectrumParts x = new SpectrumParts(6);
        CHECKS.due("told first", 0, () -> x.told(5, 500));
        CHECKS.due("told again", 500, () -> x.told(5, 0));
        CHECKS.due("told once more", 0, () -> x.told(5, 7));
        CHECKS.refuses("told below", Checks.ARGUMENT, () -> x.told(5, -1));
        CHECKS.refuses("told above", Checks.ARGUMENT, () -> x.told(5, 501));
        CHECKS.refuses("told far below", Checks.ARGUMENT, () -> x.told(5, LOW));
        CHECKS.refuses("told no channel", Checks.INDEX, () -> x.told(6, 1));
        CHECKS.refuses("told channel -1", Checks.INDEX, () -> x.told(-1, 1));
        CHECKS.refuses("told, both wrong: the index first", Checks.INDEX, () -> x.told(HIGH, 501));
        CHECKS.due("what was refused changed nothing", 7, () -> x.told(5, 8));
        CHECKS.due("told leaves the background", 0, () -> x.lowered(5));
    }

    private static void background() {
        SpectrumParts x = Make.spectrum(10, 3, 20, 8, 31);
        CHECKS.due("background(0)", 72, () -> x.background(0));
        // round 1 by the former row: 10, 3, min(20, 5), 8, 31
        CHECKS.due("background(1)", 57, () -> x.background(1));
        CHECKS.due("the middle of it", 5, () -> x.lowered(2));
        // round 2: channel 2 alone has both: min(5, 20)
        CHECKS.due("background(2)", 57, () -> x.background(2));
        CHECKS.due("background(12)", 57, () -> x.background(12));
        CHECKS.refuses("background(-1)", Checks.ARGUMENT, () -> x.background(-1));
        CHECKS.refuses("background(13)", Checks.ARGUMENT, () -> x.background(13));
        CHECKS.due("what was refused changed nothing", 5, () -> x.lowered(2));
        Make.tell(x, 0, 100, 100, 100, 0);
        CHECKS.due("it stays until it is lowered again", 5, () -> x.lowered(2));
        // all by the row ahead of the round: 0, 50, 100, 50, 0; then channel 2 gets the mean of 0 and 0
        CHECKS.due("round 1 by the row ahead of it", 200, () -> x.background(1));
        CHECKS.due("round 2", 100, () -> x.background(2));
        SpectrumParts widest = new SpectrumParts(24);
        for (int i = 0; i < 24; i++) {
            widest.told(i, i == 11 ? 500 : 499);
        }
        CHECKS.due("the longest spectrum, most rounds", 24 * 499, () -> widest.background(12));
    }

    private static void lowered() {
        SpectrumParts x = Make.spectrum(9, 8, 9, 1);
        CHECKS.due("at first", 0, () -> x.lowered(0));
        x.background(1);
        int[] ground = {9, 8, 4, 1};
        for (int i = 0; i < ground.length; i++) {
            int channel = i;
            CHECKS.due("lowered(" + i + ")", ground[i], () -> x.lowered(channel));
        }
        CHECKS.refuses("lowered(4)", Checks.INDEX, () -> x.lowered(4));
        CHECKS.refuses("lowered(-1)", Checks.INDEX, () -> x.lowered(-1));
        CHECKS.refuses("lowered(HIGH)", Checks.INDEX, () -> x.lowered(HIGH));
    }

    private static void peaks() {
        SpectrumParts x = Make.spectrum(7, 3, 3, 9, 9, 9, 2, 4);
        CHECKS.due("both ends and a flat top", 3, () -> x.peaks(0));
        CHECKS.due("the flat top's channel", 3, () -> x.peak(1, 0));
        CHECKS.due("peaks(4)", 2, () -> x.peaks(4));
        CHECKS.due("peaks(7)", 1, () -> x.peaks(7));
        CHECKS.refuses("peaks(-1)", Checks.ARGUMENT, () -> x.peaks(-1));
        CHECKS.due("what was refused changed nothing", 1, () -> x.count(1));
        CHECKS.due("peaks(9)", 0, () -> x.peaks(9));
        CHECKS.due("peaks(HIGH)", 0, () -> x.peaks(HIGH));
        CHECKS.due("peaks(0) of a row without a drop", 1, () -> Make.spectrum(5, 5, 5, 5).peaks(0));
        CHECKS.due("peaks(0) of nothing", 0, () -> Make.spectrum(0, 0, 0, 0).peaks(0));
        SpectrumParts most = new SpectrumParts(24);
        for (int i = 0; i < 24; i += 2) {
            most.told(i, 500);
        }
        CHECKS.due("as many as there can be", 12, () -> most.peaks(499));
        duePeak(most, 11, 22, 500, 500, 22, 22);
    }

    private static void peak() {
        SpectrumParts x = Make.spectrum(4, 0, 2, 2, 5, 9, 9, 9, 1, 1, 3, 0);
        CHECKS.refuses("before peaks()", Checks.INDEX, () -> x.peak(0, 0));
        x.peaks(0);
        duePeak(x, 0, 0, 4, 4, 0, 0);
        // downward strictly falling, so not past the equal 2; upward over equal ones
        duePeak(x, 1, 2, 2, 4, 2, 3);
        duePeak(x, 2, 5, 9, 36, 3, 9);
        duePeak(x, 3, 10, 3, 4, 9, 10);
        CHECKS.refuses("peak(4, 0)", Checks.INDEX, () -> x.peak(4, 0));
        CHECKS.refuses("peak(-1, 0)", Checks.INDEX, () -> x.peak(-1, 0));
        CHECKS.refuses("peak(0, 5)", Checks.INDEX, () -> x.peak(0, 5));
        CHECKS.refuses("peak(0, -1)", Checks.INDEX, () -> x.peak(0, -1));
        Make.tell(x, 0, 0, 0, 0, 0, 0, 0, 0, 0, 0, 0, 0);
        x.background(0);
        duePeak(x, 2, 5, 9, 36, 3, 9);
        x.peaks(0);
        CHECKS.refuses("gone when they are looked for again", Checks.INDEX, () -> x.peak(0, 0));
        SpectrumParts net = Make.spectrum(10, 30, 10, 6);
        net.background(1);
        net.told(3, 0);
        // the background is 10, 10, 10, 6: the last channel's net is 0, not -6
        net.peaks(0);
        duePeak(net, 0, 1, 20, 20, 1, 1);
    }

    private static void line() {
        SpectrumParts x = new SpectrumParts(5);
        CHECKS.due("a first line", 1, () -> x.line(7, 4));
        CHECKS.due("told twice it is two", 2, () -> x.line(7, 4));
        CHECKS.due("another element", 1, () -> x.line(0, 0));
        CHECKS.due("a third", 3, () -> x.line(7, 0));
        CHECKS.refuses("a fourth", Checks.STATE, () -> x.line(7, 1));
        CHECKS.refuses("a fourth of no channel: the index first", Checks.INDEX, () -> x.line(7, 5));
        CHECKS.refuses("channel -1", Checks.INDEX, () -> x.line(0, -1));
        CHECKS.refuses("channel 5", Checks.INDEX, () -> x.line(0, 5));
        CHECKS.refuses("element 8", Checks.INDEX, () -> x.line(8, 0));
        CHECKS.refuses("element -1", Checks.INDEX, () -> x.line(-1, 0));
        CHECKS.due("what was refused changed nothing", 2, () -> x.line(0, 0));
    }

    private static void element() {
        SpectrumParts x = new SpectrumParts(24);
        x.told(10, 5);
        x.told(23, 5);
        CHECKS.refuses("before peaks()", Checks.INDEX, () -> x.element(0, 0));
        x.peaks(0);
        CHECKS.due("no lines", SpectrumParts.NONE, () -> x.element(0, 24));
        x.line(6, 0);
        CHECKS.due("a line too far", SpectrumParts.NONE, () -> x.element(0, 9));
        CHECKS.due("a line just near enough", 6, () -> x.element(0, 10));
        CHECKS.due("a line as far as can be", 6, () -> x.element(1, 23));
        CHECKS.due("a line nearly as far", SpectrumParts.NONE, () -> x.element(1, 22));
        x.line(5, 13);
        x.line(3, 7);
        CHECKS.due("equally near, the lowest", 3, () -> x.element(0, 24));
        x.line(7, 22);
        x.line(7, 9);
        CHECKS.due("the nearer one, by its second line", 7, () -> x.element(0, 24));
        x.line(7, 10);
        CHECKS.due("tolerance 0", 7, () -> x.element(0, 0));
        CHECKS.refuses("tolerance -1", Checks.ARGUMENT, () -> x.element(0, -1));
        CHECKS.refuses("tolerance 25", Checks.ARGUMENT, () -> x.element(0, 25));
        CHECKS.refuses("no peak, no tolerance: the index first", Checks.INDEX, () -> x.element(2, 25));
        CHECKS.refuses("peak -1", Checks.INDEX, () -> x.element(-1, 0));
        x.told(10, 0);
        CHECKS.due("the peak stays as it was found", 7, () -> x.element(0, 0));
    }

    private static void detect() {
        SpectrumParts x = Make.spectrum(1, 2, 4, 8, 16, 32, 64, 128);
        x.line(0, 0);
        CHECKS.due("before the background", 0, () -> x.detect(0));
        x.background(0);
        CHECKS.due("channels 0, 1: root of 27", 5, () -> x.detect(0));
        x.line(0, 2);
        CHECKS.due("channels 0 to 3, each once: root of 135", 11, () -> x.detect(0));
        x.line(0, 7);
        CHECKS.due("channels 0 to 3, 6, 7: root of 1863", 43, () -> x.detect(0));
        CHECKS.due("no line", 0, () -> x.detect(7));
        x.line(7, 3);
        x.line(7, 3);
        CHECKS.due("a line twice, channels 2 to 4: root of 252", 15, () -> x.detect(7));
        Make.tell(x, 1, 1, 2, 0, 0, 0, 0, 0);
        x.background(0);
        x.line(1, 1);
        CHECKS.due("the root of a square", 6, () -> x.detect(1));
        x.told(2, 1);
        x.background(0);
        CHECKS.due("the root of 27", 5, () -> x.detect(1));
        CHECKS.refuses("element 8", Checks.INDEX, () -> x.detect(8));
        CHECKS.refuses("element -1", Checks.INDEX, () -> x.detect(-1));
        SpectrumParts most = new SpectrumParts(24);
        for (int i = 0; i < 24; i++) {
            most.told(i, 500);
        }
        most.background(0);
        most.line(2, 1);
        most.line(2, 10);
        most.line(2, 22);
        CHECKS.due("the greatest bound: root of 40500", 201, () -> most.detect(2));
    }

    private static void library() {
        SpectrumParts x = new SpectrumParts(4);
        CHECKS.due("the first", 0, x::library);
        CHECKS.due("the second", 1, x::library);
        CHECKS.due("the third", 2, x::library);
        CHECKS.refuses("a fourth", Checks.STATE, x::library);
        CHECKS.due("three stay", 3, () -> x.count(2));
        CHECKS.due("all 0", 0, () -> x.entry(2, 3, 0));
    }

    private static void entry() {
        SpectrumParts x = new SpectrumParts(4);
        CHECKS.refuses("no library yet", Checks.INDEX, () -> x.entry(0, 0, 1));
        x.library();
        x.library();
        CHECKS.due("an entry", 0, () -> x.entry(1, 3, 20));
        CHECKS.due("told again", 20, () -> x.entry(1, 3, 0));
        CHECKS.due("and again", 0, () -> x.entry(1, 3, 9));
        CHECKS.due("another library's", 0, () -> x.entry(0, 3, 1));
        CHECKS.refuses("v -1", Checks.ARGUMENT, () -> x.entry(1, 3, -1));
        CHECKS.refuses("v 21", Checks.ARGUMENT, () -> x.entry(1, 3, 21));
        CHECKS.refuses("library 2", Checks.INDEX, () -> x.entry(2, 0, 1));
        CHECKS.refuses("library -1", Checks.INDEX, () -> x.entry(-1, 0, 1));
        CHECKS.refuses("channel 4", Checks.INDEX, () -> x.entry(0, 4, 1));
        CHECKS.refuses("channel -1", Checks.INDEX, () -> x.entry(0, -1, 1));
        CHECKS.refuses("all wrong: the index first", Checks.INDEX, () -> x.entry(0, 4, 21));
        CHECKS.due("what was refused changed nothing", 9, () -> x.entry(1, 3, 9));
    }

    private static void parts() {
        SpectrumParts x = Make.spectrum(6, 0, 0, 0);
        CHECKS.due("no library", 0, x::parts);
        x.library();
        CHECKS.due("a library that is all 0", 0, x::parts);
        x.entry(0, 1, 5);
        CHECKS.due("a library beside the net", 0, x::parts);
        x.entry(0, 0, 4);
        CHECKS.due("24 / 41 of it", 1, x::parts);
        dueShare(x, 0, 24, 41);
        Make.addLibrary(x, 3, 0, 0, 0);
        CHECKS.due("the other one fits better, alone", 2, x::parts);
        dueShare(x, 0, 0, 1);
        dueShare(x, 1, 2, 1);
        Make.addLibrary(x, 2, 0, 0, 0);
        CHECKS.due("of equally many the lesser number", 2, x::parts);
        x.background(0);
        CHECKS.due("without any net", 0, x::parts);
        dueShare(x, 1, 0, 1);
    }

    private static void partsOfSets() {
        SpectrumParts x = Make.spectrum(2, 3, 5, 0);
        Make.addLibrary(x, 1, 0, 0, 0);
        Make.addLibrary(x, 0, 1, 0, 0);
        Make.addLibrary(x, 0, 0, 1, 0);
        CHECKS.due("all three", 7, x::parts);
        dueShare(x, 2, 5, 1);
        x.told(0, 0);
        CHECKS.due("the last two", 6, x::parts);
        x.told(0, 2);
        x.told(1, 0);
        CHECKS.due("the outer two", 5, x::parts);
        x.told(2, 0);
        CHECKS.due("the first", 1, x::parts);
        x.told(0, 0);
        x.told(2, 4);
        CHECKS.due("the third", 4, x::parts);
        x.told(0, 3);
        x.told(1, 3);
        x.entry(2, 0, 1);
        x.entry(2, 1, 1);
        x.entry(2, 2, 0);
        CHECKS.due("library 2 is 0 and 1 together: one alone will do", 4, x::parts);
        dueShare(x, 2, 3, 1);
        x.told(1, 4);
        CHECKS.due("two of three that hang together: the lesser number", 3, x::parts);
        dueShare(x, 0, 3, 1);
        dueShare(x, 1, 4, 1);
        dueShare(x, 2, 0, 1);
        SpectrumParts y = Make.spectrum(9, 0, 1, 0);
        Make.addLibrary(y, 1, 1, 0, 0);
        Make.addLibrary(y, 0, 2, 1, 0);
        // both alone would have shares below 0 for library 1
        CHECKS.due("none below 0", 1, y::parts);
        dueShare(y, 0, 9, 2);
    }

    private static void partsAtTheBounds() {
        SpectrumParts x = new SpectrumParts(24);
        for (int library = 0; library < 3; library++) {
            x.library();
            for (int i = 0; i < 24; i++) {
                x.entry(library, i, i == library ? 19 : 20);
            }
        }
        for (int i = 0; i < 24; i++) {
            x.told(i, i < 3 ? 490 + i : 500);
        }
        // nearly the greatest products, and libraries that nearly hang together
        CHECKS.due("great numbers", 7, x::parts);
        CHECKS.due("least of them", 1, () -> x.least() ? 1 : 0);
        x.told(23, 499);
        CHECKS.due("no longer", 0, () -> x.least() ? 1 : 0);
    }

    private static void share() {
        SpectrumParts x = Make.spectrum(5, 5, 1, 0);
        CHECKS.refuses("no library, no parts(): the index first", Checks.INDEX, () -> x.share(0, 0));
        x.library();
        CHECKS.refuses("no parts()", Checks.STATE, () -> x.share(0, 0));
        CHECKS.refuses("no parts(), no part: the index first", Checks.INDEX, () -> x.share(0, 2));
        x.parts();
        dueShare(x, 0, 0, 1);
        x.entry(0, 0, 2);
        x.entry(0, 1, 4);
        dueShare(x, 0, 0, 1);
        x.parts();
        // 30 / 20
        dueShare(x, 0, 3, 2);
        x.told(0, 0);
        dueShare(x, 0, 3, 2);
        x.library();
        dueShare(x, 1, 0, 1);
        CHECKS.refuses("part 2", Checks.INDEX, () -> x.share(0, 2));
        CHECKS.refuses("part -1", Checks.INDEX, () -> x.share(0, -1));
        CHECKS.refuses("library 2", Checks.INDEX, () -> x.share(2, 0));
        CHECKS.refuses("library -1", Checks.INDEX, () -> x.share(-1, 0));
        x.entry(1, 0, 2);
        x.entry(1, 2, 1);
        x.parts();
        // 20 p + 4 q = 20, 4 p + 5 q = 1: q would be below 0
        dueShare(x, 0, 1, 1);
        dueShare(x, 1, 0, 1);
        x.told(2, 7);
        x.parts();
        // 20 p + 4 q = 20, 4 p + 5 q = 7
        dueShare(x, 0, 6, 7);
        dueShare(x, 1, 5, 7);
    }

    private static void dueLeast(SpectrumParts x, String when, boolean want) {
        CHECKS.due("least " + when, want ? 1 : 0, () -> x.least() ? 1 : 0);
    }

    private static void least() {
        SpectrumParts x = Make.spectrum(4, 4, 0, 6);
        CHECKS.refuses("no parts()", Checks.STATE, () -> x.least() ? 1 : 0);
        Make.addLibrary(x, 2, 2, 0, 0);
        CHECKS.refuses("still no parts()", Checks.STATE, () -> x.least() ? 1 : 0);
        x.parts();
        dueLeast(x, "as solved", true);
        x.told(0, 5);
        dueLeast(x, "with a greater net", false);
        x.told(1, 3);
        dueLeast(x, "with the same sum", true);
        x.told(1, 2);
        dueLeast(x, "with a lesser net", false);
        x.told(1, 3);
        x.library();
        dueLeast(x, "with a library that is all 0", true);
        x.entry(1, 0, 1);
        x.entry(1, 1, 1);
        dueLeast(x, "with another library that adds nothing", true);
        x.entry(1, 1, 2);
        dueLeast(x, "with one that would be below 0", true);
        x.entry(1, 3, 1);
        dueLeast(x, "with one that would be above 0", false);
        x.parts();
        dueLeast(x, "solved again", true);
        x.entry(0, 0, 3);
        dueLeast(x, "with an entry changed", false);
        x.entry(0, 0, 2);
        dueLeast(x, "with the entry changed back", true);
        x.background(0);
        dueLeast(x, "without any net", false);
        x.parts();
        dueLeast(x, "without any net, solved", true);
    }

    private static void sample() {
        SpectrumParts x = new SpectrumParts(4);
        for (int i = 0; i < 12; i++) {
            CHECKS.due("sample()", i, x::sample);
        }
        CHECKS.refuses("a thirteenth", Checks.STATE, x::sample);
        CHECKS.due("twelve stay", 12, () -> x.count(3));
        CHECKS.due("the last one's measure", 0, () -> x.measured(11, 1, 0));
    }

    private static void measured() {
        SpectrumParts x = new SpectrumParts(4);
        CHECKS.refuses("no sample yet", Checks.INDEX, () -> x.measured(0, 0, 0));
        x.sample();
        CHECKS.due("a measure", 0, () -> x.measured(0, 1, -1000));
        CHECKS.due("told again", -1000, () -> x.measured(0, 1, 1000));
        CHECKS.due("the other one", 0, () -> x.measured(0, 0, 3));
        CHECKS.refuses("v -1001", Checks.ARGUMENT, () -> x.measured(0, 1, -1001));
        CHECKS.refuses("v 1001", Checks.ARGUMENT, () -> x.measured(0, 1, 1001));
        CHECKS.refuses("measure 2", Checks.INDEX, () -> x.measured(0, 2, 0));
        CHECKS.refuses("measure -1", Checks.INDEX, () -> x.measured(0, -1, 0));
        CHECKS.refuses("sample 1", Checks.INDEX, () -> x.measured(1, 0, 0));
        CHECKS.refuses("sample -1", Checks.INDEX, () -> x.measured(-1, 0, 0));
        CHECKS.refuses("all wrong: the index first", Checks.INDEX, () -> x.measured(0, 2, 1001));
        CHECKS.due("what was refused changed nothing", 1000, () -> x.measured(0, 1, 0));
    }

    private static void covariance() {
        SpectrumParts x = new SpectrumParts(4);
        Make.addSample(x, 1, 0);
        Make.addSample(x, 0, 0);
        dueDistance(x, 0, 1, 1, 1);
        int[][] taken = {{1, 0, 1}, {1000, 999, 1000}, {1000, -999, 1000}, {1, 0, 1000}, {1000, 31, 1}, {2, 1, 1}, {5, 1, 7}};
        for (int[] t : taken) {
            CHECKS.due("covariance of " + t[0] + ", " + t[1] + ", " + t[2], 0, () -> Make.covariance(x, t[0], t[1], t[2]));
        }
        int[][] refused = {{0, 0, 1}, {1, 0, 0}, {1001, 0, 1}, {1, 0, 1001}, {1000, 1001, 1000}, {1000, -1001, 1000},
            {1000, 1000, 1000}, {1000, -1000, 1000}, {1, 1, 1}, {4, 2, 1}, {2, 2, 1}, {-2, 1, -2}, {HIGH, 0, HIGH}, {LOW, 0, LOW},
            {1, 65536, 1}, {1, LOW, 1}};
        for (int[] r : refused) {
            CHECKS.refuses("covariance of " + r[0] + ", " + r[1] + ", " + r[2], Checks.ARGUMENT, () -> Make.covariance(x, r[0], r[1], r[2]));
        }
        // what was refused changed nothing: 7 / 34
        dueDistance(x, 0, 1, 7, 34);
    }

    private static void distance() {
        SpectrumParts x = new SpectrumParts(4);
        Make.addSample(x, 3, 4);
        Make.addSample(x, -1, 2);
        Make.addSample(x, 1000, -1000);
        Make.addSample(x, -1000, 1000);
        dueDistance(x, 0, 1, 20, 1);
        dueDistance(x, 1, 0, 20, 1);
        dueDistance(x, 2, 2, 0, 1);
        x.covariance(4, 1, 2);
        // dx 4, dy 2: (2 * 16 - 2 * 8 + 4 * 4) / 7
        dueDistance(x, 0, 1, 32, 7);
        x.covariance(4, -2, 3);
        // (3 * 16 + 4 * 8 + 4 * 4) / 8
        dueDistance(x, 1, 0, 12, 1);
        dueDistance(x, 1, 1, 0, 1);
        x.covariance(1000, 999, 1000);
        // (1000 * 2000^2 + 1998 * 2000^2 + 1000 * 2000^2) / 1999 = 3998 * 2000^2 / 1999
        dueDistance(x, 2, 3, 8000000, 1);
        x.covariance(999, 998, 1000);
        // 3995 * 2000^2 / 2996, 2996 being 4 * 7 * 107
        dueDistance(x, 2, 3, 3995L * 1000 * 1000, 749);
        CHECKS.refuses("sample 4", Checks.INDEX, () -> x.distance(4, 0, 0));
        CHECKS.refuses("other sample 4", Checks.INDEX, () -> x.distance(0, 4, 0));
        CHECKS.refuses("sample -1", Checks.INDEX, () -> x.distance(-1, 0, 0));
        CHECKS.refuses("other sample -1", Checks.INDEX, () -> x.distance(0, -1, 0));
        CHECKS.refuses("part 2", Checks.INDEX, () -> x.distance(0, 1, 2));
        CHECKS.refuses("part -1", Checks.INDEX, () -> x.distance(0, 1, -1));
    }

    private static void dueGroup(SpectrumParts x, int sample, int cut, int want) {
        CHECKS.due("group(" + sample + ", " + cut + ")", want, () -> x.group(sample, cut));
    }

    private static void group() {
        SpectrumParts x = new SpectrumParts(4);
        CHECKS.refuses("no sample yet", Checks.INDEX, () -> x.group(0, 1));
        int[] places = {90, 0, 40, 10, 30, 20, 71, 60, 90};
        for (int place : places) {
            Make.addSample(x, place, 0);
        }
        // 0 to 40 is a chain of steps of 10; 60 and 71 are 11 apart; 90 twice
        dueGroup(x, 2, 100, 1);
        dueGroup(x, 5, 100, 1);
        dueGroup(x, 1, 100, 1);
        dueGroup(x, 7, 100, 7);
        dueGroup(x, 7, 121, 6);
        dueGroup(x, 7, 120, 7);
        dueGroup(x, 8, 0, 0);
        dueGroup(x, 2, 99, 2);
        dueGroup(x, 2, 400, 0);
        dueGroup(x, 8, HIGH, 0);
        x.covariance(3, 0, 1);
        // a third of the squares
        dueGroup(x, 2, 33, 2);
        dueGroup(x, 2, 34, 1);
        dueGroup(x, 7, 40, 7);
        dueGroup(x, 7, 41, 6);
        CHECKS.refuses("cut -1", Checks.ARGUMENT, () -> x.group(0, -1));
        CHECKS.refuses("sample 9", Checks.INDEX, () -> x.group(9, 0));
        CHECKS.refuses("sample -1", Checks.INDEX, () -> x.group(-1, 0));
        CHECKS.refuses("all wrong: the index first", Checks.INDEX, () -> x.group(9, -1));
        SpectrumParts far = new SpectrumParts(4);
        Make.addSample(far, 1000, -1000);
        Make.addSample(far, -1000, 1000);
        far.covariance(1000, 0, 1000);
        dueGroup(far, 1, 7999, 1);
        dueGroup(far, 1, 8000, 0);
        dueGroup(far, 1, HIGH, 0);
    }

    private static void standard() {
        SpectrumParts x = new SpectrumParts(4);
        for (int i = 0; i < 9; i++) {
            int day = 900 - 100 * i;
            CHECKS.due("standard()", i + 1, () -> x.standard(day, 10000));
        }
        CHECKS.due("a day told again", 9, () -> x.standard(300, 1));
        CHECKS.due("the last day", 10, () -> x.standard(100000, 5));
        CHECKS.refuses("one more", Checks.STATE, () -> x.standard(0, 5));
        CHECKS.refuses("one more, its factor wrong", Checks.ARGUMENT, () -> x.standard(0, 0));
        CHECKS.due("a day told again among ten", 10, () -> x.standard(100000, 500));
        CHECKS.due("its factor is the new one", 2, () -> x.corrected(100000, 1));
        CHECKS.refuses("day -1", Checks.ARGUMENT, () -> x.standard(-1, 5));
        CHECKS.refuses("day 100001", Checks.ARGUMENT, () -> x.standard(100001, 5));
        CHECKS.refuses("factor 0", Checks.ARGUMENT, () -> x.standard(300, 0));
        CHECKS.refuses("factor 10001", Checks.ARGUMENT, () -> x.standard(300, 10001));
        CHECKS.due("ten stay", 10, () -> x.count(4));
        CHECKS.due("what was refused changed nothing", 3000, () -> x.corrected(300, 3));
        SpectrumParts first = new SpectrumParts(4);
        CHECKS.due("the first day", 1, () -> first.standard(0, 1));
    }

    private static void corrected() {
        SpectrumParts x = new SpectrumParts(4);
        CHECKS.due("without standards", 1000000, () -> x.corrected(100000, 1000000));
        CHECKS.due("nothing", 0, () -> x.corrected(0, 0));
        x.standard(100, 3000);
        CHECKS.due("ahead of the only one", 333, () -> x.corrected(0, 1000));
        CHECKS.due("on it", 333, () -> x.corrected(100, 1000));
        CHECKS.due("behind it", 333, () -> x.corrected(100000, 1000));
        x.standard(90, 10);
        x.standard(107, 2989);
        CHECKS.due("ahead of the first", 100, () -> x.corrected(89, 1));
        // 3000 - 11 / 7 rounded down is 2998, upward it would be 2999
        CHECKS.due("on a falling line", 1000, () -> x.corrected(101, 2998));
        CHECKS.due("on a falling line, less", 999, () -> x.corrected(101, 2997));
        // 10 + 2990 / 10 = 309
        CHECKS.due("on a rising line", 1000, () -> x.corrected(91, 309));
        CHECKS.due("behind the last", 1000, () -> x.corrected(108, 2989));
        x.standard(95, 7);
        CHECKS.due("the nearest ones count", 1000, () -> x.corrected(91, 9));
        CHECKS.refuses("day -1", Checks.ARGUMENT, () -> x.corrected(-1, 0));
        CHECKS.refuses("day 100001", Checks.ARGUMENT, () -> x.corrected(100001, 0));
        CHECKS.refuses("v -1", Checks.ARGUMENT, () -> x.corrected(0, -1));
        CHECKS.refuses("v 1000001", Checks.ARGUMENT, () -> x.corrected(0, 1000001));
        SpectrumParts wide = new SpectrumParts(4);
        wide.standard(0, 10000);
        wide.standard(100000, 1);
        // 10000 - 9999 * 99999 / 100000 = 1.09999, rounded down 1
        CHECKS.due("the widest line", 1000000000, () -> wide.corrected(99999, 1000000));
        CHECKS.due("its first day", 100, () -> wide.corrected(0, 1000));
        // 10000 - 0.09999
        CHECKS.due("its second day", 1000, () -> wide.corrected(1, 9999));
    }

    private static void count() {
        SpectrumParts x = Make.spectrum(1, 0, 1, 0, 1, 0, 1);
        x.peaks(0);
        x.library();
        x.library();
        x.sample();
        x.sample();
        x.sample();
        x.standard(1, 1);
        int[] counts = {7, 4, 2, 3, 1};
        for (int what = 0; what < counts.length; what++) {
            int w = what;
            CHECKS.due("count(" + w + ")", counts[w], () -> x.count(w));
        }
        CHECKS.refuses("count(5)", Checks.INDEX, () -> x.count(5));
        CHECKS.refuses("count(-1)", Checks.INDEX, () -> x.count(-1));
        CHECKS.refuses("count(LOW)", Checks.INDEX, () -> x.count(LOW));
    }
}
