/** Sentences of the document that name a boundary: lines, elements, bounds of detection (promises 7 to 9). */
public final class ElementEdgeTest {
    private static final Checks CHECKS = new Checks();
    private static final int LOW = Checks.LOW;
    private static final int HIGH = Checks.HIGH;
    private static final int NONE = SpectrumParts.NONE;

    public static void main(String[] args) {
        fullElements();
        toldTwice();
        noSuchElementOfLine();
        noSuchChannelOfLine();
        threeLines();
        none();
        withinTolerance();
        lowestOfEquallyNear();
        noSuchPeak();
        toleranceBounds();
        noLine();
        nextToTheFirst();
        nextToTheLast();
        channelsOnce();
        rootRoundedDown();
        noSuchElementOfDetect();
        CHECKS.end();
    }

    private static void dueElement(SpectrumParts x, int peak, int tolerance, int want) {
        CHECKS.due("element(" + peak + ", " + tolerance + ")", want, () -> x.element(peak, tolerance));
    }

    private static void dueBound(SpectrumParts x, int element, int want) {
        CHECKS.due("detect(" + element + ")", want, () -> x.detect(element));
    }

    /** 24 channels with a single peak. */
    private static SpectrumParts peakAt(int channel) {
        SpectrumParts x = new SpectrumParts(24);
        x.told(channel, 9);
        x.peaks(0);
        return x;
    }

    private static void fullElements() {
        CHECKS.sentence("ELEMENTS 0 .. 7 have at most three LINES each, which are channels.");
        SpectrumParts x = new SpectrumParts(4);
        for (int k = 1; k <= 3; k++) {
            for (int element = 0; element < 8; element++) {
                int lines = k;
                int e = element;
                CHECKS.due("line " + k + " of element " + e, lines, () -> x.line(e, lines));
            }
        }
        CHECKS.refusesEach("a fourth line of element", Checks.STATE, e -> x.line(e, 0), 0, 1, 2, 3, 4, 5, 6, 7);
    }

    private static void toldTwice() {
        CHECKS.sentence("A line of an element (told twice it is two): how many it has.");
        SpectrumParts x = new SpectrumParts(4);
        CHECKS.due("once", 1, () -> x.line(5, 3));
        CHECKS.due("twice", 2, () -> x.line(5, 3));
        CHECKS.due("three times", 3, () -> x.line(5, 3));
        CHECKS.refuses("four times", Checks.STATE, () -> x.line(5, 3));
    }

    private static void noSuchElementOfLine() {
        CHECKS.sentence("IndexOutOfBoundsException: element");
        SpectrumParts x = new SpectrumParts(24);
        CHECKS.refusesEach("line: element", Checks.INDEX, e -> x.line(e, 0), LOW, -8, -1, 8, 9, 23, HIGH);
        CHECKS.due("the first element", 1, () -> x.line(0, 0));
        CHECKS.due("the last element", 1, () -> x.line(7, 0));
    }

    private static void noSuchChannelOfLine() {
        CHECKS.sentence("IndexOutOfBoundsException: .. channel.");
        SpectrumParts x = new SpectrumParts(4);
        CHECKS.refusesEach("line: channel", Checks.INDEX, c -> x.line(0, c), LOW, -4, -1, 4, 5, 23, HIGH);
        CHECKS.due("the first channel", 1, () -> x.line(0, 0));
        CHECKS.due("the last channel", 2, () -> x.line(0, 3));
        SpectrumParts y = new SpectrumParts(24);
        CHECKS.refusesEach("line: channel of 24", Checks.INDEX, c -> y.line(0, c), LOW, -1, 24, 25, HIGH);
        CHECKS.due("the last channel of 24", 1, () -> y.line(0, 23));
    }

    private static void threeLines() {
        CHECKS.sentence("IllegalStateException: it has three.");
        SpectrumParts x = new SpectrumParts(4);
        for (int channel = 0; channel < 3; channel++) {
            x.line(3, channel);
        }
        for (int channel = 0; channel < 4; channel++) {
            int c = channel;
            CHECKS.refuses("line(3, " + c + ")", Checks.STATE, () -> x.line(3, c));
        }
        CHECKS.refusesEach("no such channel comes first", Checks.INDEX, c -> x.line(3, c), LOW, -1, 4, HIGH);
        CHECKS.due("the element below has room", 1, () -> x.line(2, 3));
        CHECKS.due("the element above has room", 1, () -> x.line(4, 3));
    }

    private static void none() {
        CHECKS.sentence("NONE (unknown)");
        CHECKS.due("NONE", -1, () -> NONE);
        SpectrumParts x = peakAt(12);
        dueElement(x, 0, 0, NONE);
        dueElement(x, 0, 24, NONE);
        x.line(0, 0);
        x.line(7, 23);
        dueElement(x, 0, 10, NONE);
    }

    private static void withinTolerance() {
        CHECKS.sentence("The element with the line nearest to a peak's channel, at most tolerance channels from it");
        SpectrumParts low = peakAt(10);
        low.line(4, 7);
        dueElement(low, 0, 2, NONE);
        dueElement(low, 0, 3, 4);
        dueElement(low, 0, 24, 4);
        SpectrumParts high = peakAt(10);
        high.line(4, 13);
        dueElement(high, 0, 2, NONE);
        dueElement(high, 0, 3, 4);
        SpectrumParts at = peakAt(10);
        at.line(6, 9);
        at.line(5, 11);
        dueElement(at, 0, 0, NONE);
        at.line(7, 10);
        dueElement(at, 0, 0, 7);
        dueElement(at, 0, 1, 7);
        SpectrumParts widest = peakAt(0);
        widest.line(1, 23);
        dueElement(widest, 0, 22, NONE);
        dueElement(widest, 0, 23, 1);
        SpectrumParts back = peakAt(23);
        back.line(1, 0);
        dueElement(back, 0, 22, NONE);
        dueElement(back, 0, 23, 1);
        dueElement(back, 0, 24, 1);
    }

    private static void lowestOfEquallyNear() {
        CHECKS.sentence("of equally near ones the lowest");
        SpectrumParts x = peakAt(10);
        x.line(7, 12);
        dueElement(x, 0, 2, 7);
        x.line(6, 12);
        dueElement(x, 0, 2, 6);
        x.line(3, 8);
        dueElement(x, 0, 2, 3);
        x.line(4, 8);
        dueElement(x, 0, 2, 3);
        x.line(0, 13);
        dueElement(x, 0, 24, 3);
        x.line(0, 7);
        x.line(0, 12);
        dueElement(x, 0, 24, 0);
    }

    private static void noSuchPeak() {
        CHECKS.sentence("IndexOutOfBoundsException: peak.");
        SpectrumParts x = Make.spectrum(1, 0, 1, 0);
        x.line(2, 0);
        CHECKS.refusesEach("element, no peaks", Checks.INDEX, k -> x.element(k, 24), LOW, -1, 0, 1, HIGH);
        x.peaks(0);
        dueElement(x, 1, 24, 2);
        CHECKS.refusesEach("element, two peaks", Checks.INDEX, k -> x.element(k, 24), LOW, -2, -1, 2, 3, HIGH);
        CHECKS.refusesEach("element, no such tolerance", Checks.INDEX, k -> x.element(k, 25), -1, 2);
        x.peaks(1);
        CHECKS.refuses("element, peaks are gone", Checks.INDEX, () -> x.element(0, 24));
    }

    private static void toleranceBounds() {
        CHECKS.sentence("IllegalArgumentException: tolerance is not 0 .. 24.");
        SpectrumParts x = peakAt(5);
        x.line(1, 5);
        CHECKS.refusesEach("element: tolerance", Checks.ARGUMENT, t -> x.element(0, t), LOW, -24, -1, 25, 26, 500, HIGH);
        dueElement(x, 0, 0, 1);
        dueElement(x, 0, 24, 1);
    }

    private static void noLine() {
        CHECKS.sentence("over all channels that are a line of it");
        SpectrumParts x = Make.level(24, 500);
        x.background(0);
        for (int e = 0; e < 8; e++) {
            dueBound(x, e, 0);
        }
        x.line(3, 10);
        // 3 * 500 * 9 = 13500
        dueBound(x, 3, 116);
        dueBound(x, 2, 0);
        dueBound(x, 4, 0);
    }

    private static void nextToTheFirst() {
        CHECKS.sentence("or next to one (the first channel has none below it)");
        SpectrumParts x = Make.spectrum(4, 0, 0, 0, 0, 500);
        x.background(0);
        x.line(0, 0);
        // the last channel is not next to the first one
        dueBound(x, 0, 6);
        x.line(1, 1);
        dueBound(x, 1, 6);
        x.line(2, 2);
        dueBound(x, 2, 0);
    }

    private static void nextToTheLast() {
        CHECKS.sentence("or next to one (the last channel has none above it)");
        SpectrumParts x = Make.spectrum(500, 0, 0, 0, 0, 4);
        x.background(0);
        x.line(0, 5);
        dueBound(x, 0, 6);
        x.line(1, 4);
        dueBound(x, 1, 6);
        x.line(2, 3);
        dueBound(x, 2, 0);
        SpectrumParts most = Make.level(24, 500);
        most.background(0);
        most.line(7, 23);
        // 2 * 500 * 9 = 9000
        dueBound(most, 7, 94);
    }

    private static void channelsOnce() {
        CHECKS.sentence("over all channels .., the sum of the background");
        SpectrumParts x = Make.level(6, 4);
        x.background(0);
        x.line(0, 2);
        // 12 * 9 = 108
        dueBound(x, 0, 10);
        x.line(0, 2);
        dueBound(x, 0, 10);
        x.line(0, 3);
        // channels 1 to 4: 16 * 9 = 144
        dueBound(x, 0, 12);
        x.line(1, 0);
        x.line(1, 2);
        x.line(1, 5);
        // channels 0 to 5: 24 * 9 = 216
        dueBound(x, 1, 14);
        SpectrumParts most = Make.level(24, 500);
        most.line(2, 1);
        most.line(2, 12);
        most.line(2, 22);
        dueBound(most, 2, 0);
        most.background(0);
        // the greatest: 9 * 500 * 9 = 40500
        dueBound(most, 2, 201);
    }

    private static void rootRoundedDown() {
        CHECKS.sentence("times 9; its square root, rounded down");
        SpectrumParts x = new SpectrumParts(4);
        x.line(0, 0);
        int[][] roots = {{0, 0}, {1, 3}, {2, 4}, {3, 5}, {4, 6}, {5, 6}, {8, 8}, {9, 9}, {10, 9}, {15, 11}, {16, 12},
            {399, 59}, {400, 60}, {401, 60}, {500, 67}};
        for (int[] pair : roots) {
            x.told(0, pair[0]);
            x.background(0);
            dueBound(x, 0, pair[1]);
        }
    }

    private static void noSuchElementOfDetect() {
        CHECKS.sentence("The bound of detection of an element .. IndexOutOfBoundsException.");
        SpectrumParts x = new SpectrumParts(24);
        CHECKS.refusesEach("detect", Checks.INDEX, x::detect, LOW, -8, -1, 8, 9, 23, HIGH);
        dueBound(x, 0, 0);
        dueBound(x, 7, 0);
    }
}
