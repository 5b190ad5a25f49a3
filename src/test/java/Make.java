/** Objects with a state to begin with, and calls with a number for their answer. */
final class Make {
    private Make() {
    }

    static SpectrumParts spectrum(int... counts) {
        SpectrumParts x = new SpectrumParts(counts.length);
        tell(x, counts);
        return x;
    }

    /** A spectrum with one count in all channels. */
    static SpectrumParts level(int channels, int count) {
        SpectrumParts x = new SpectrumParts(channels);
        for (int i = 0; i < channels; i++) {
            x.told(i, count);
        }
        return x;
    }

    static void tell(SpectrumParts x, int... counts) {
        for (int i = 0; i < counts.length; i++) {
            x.told(i, counts[i]);
        }
    }

    static void addLibrary(SpectrumParts x, int... entries) {
        int library = x.library();
        for (int i = 0; i < entries.length; i++) {
            x.entry(library, i, entries[i]);
        }
    }

    static void addSample(SpectrumParts x, int first, int second) {
        int sample = x.sample();
        x.measured(sample, 0, first);
        x.measured(sample, 1, second);
    }

    /** covariance() as a call with an answer: 0 if it is taken. */
    static long covariance(SpectrumParts x, int a, int b, int c) {
        x.covariance(a, b, c);
        return 0;
    }

    /** least() as a call with a number for its answer. */
    static long least(SpectrumParts x) {
        return x.least() ? 1 : 0;
    }
}
