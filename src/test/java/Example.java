/** How SpectrumParts is used: the program that README.md shows. */
public final class Example {
    public static void main(String[] args) {
        SpectrumParts x = new SpectrumParts(9);
        int[] counts = {10, 12, 60, 200, 70, 15, 90, 90, 20};
        for (int channel = 0; channel < counts.length; channel++) {
            x.told(channel, counts[channel]);
        }
        System.out.println("the sum of the background: " + x.background(2));
        findPeaks(x);
        solveShares(x);
        groupSamples(x);
        correctReadings(x);
    }

    private static void findPeaks(SpectrumParts x) {
        x.line(5, 4);
        int found = x.peaks(30);
        for (int k = 0; k < found; k++) {
            System.out.println("a peak at channel " + x.peak(k, 0) + ": net " + x.peak(k, 1) + ", area " + x.peak(k, 2)
                    + ", channels " + x.peak(k, 3) + " to " + x.peak(k, 4) + ", element " + x.element(k, 1));
        }
        System.out.println("the bound of detection of element 5: " + x.detect(5));
    }

    private static void solveShares(SpectrumParts x) {
        int first = x.library();
        x.entry(first, 2, 5);
        x.entry(first, 3, 20);
        int second = x.library();
        x.entry(second, 6, 9);
        System.out.println("the set of libraries: " + x.parts());
        System.out.println("the share of the first: " + x.share(first, 0) + " / " + x.share(first, 1));
        System.out.println("the share of the second: " + x.share(second, 0) + " / " + x.share(second, 1));
        x.told(6, 95);
        System.out.println("still the least: " + x.least());
    }

    private static void groupSamples(SpectrumParts x) {
        x.covariance(4, 1, 2);
        for (int k = 0; k < 3; k++) {
            int sample = x.sample();
            x.measured(sample, 0, 3 * k * k);
            x.measured(sample, 1, k);
        }
        System.out.println("the distance of 0 and 1: " + x.distance(0, 1, 0) + " / " + x.distance(0, 1, 1));
        System.out.println("with a cut of 3 the lowest beside 1: " + x.group(1, 3) + ", beside 2: " + x.group(2, 3));
    }

    private static void correctReadings(SpectrumParts x) {
        x.standard(10, 1100);
        x.standard(30, 1200);
        System.out.println("777 read on day 15: " + x.corrected(15, 777));
        try {
            x.corrected(-1, 777);
        } catch (IllegalArgumentException e) {
            System.out.println("there is no day -1");
        }
        System.out.println("standards: " + x.count(4));
    }
}
