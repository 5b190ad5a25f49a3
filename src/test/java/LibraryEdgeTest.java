/** Sentences of the document that name a boundary: libraries and their shares (promises 10 to 14). */
public final class LibraryEdgeTest {
    private static final Checks CHECKS = new Checks();
    private static final int LOW = Checks.LOW;
    private static final int HIGH = Checks.HIGH;

    public static void main(String[] args) {
        threeLibraries();
        allNothing();
        noSuchLibraryOfEntry();
        noSuchChannelOfEntry();
        entryBounds();
        partsOfNothing();
        everySet();
        noneBelow();
        noneBelowOfPairs();
        theOnlyOnes();
        fewest();
        lesserNumber();
        thereAlwaysIsOne();
        greatNumbers();
        lowestTerms();
        notInTheSet();
        toldLater();
        latestParts();
        noSuchLibraryOfShare();
        noSuchPart();
        noPartsOfShare();
        leastAsItIsNow();
        leastByOne();
        leastOfNothing();
        noPartsOfLeast();
        CHECKS.end();
    }

    private static void dueParts(SpectrumParts x, int want) {
        CHECKS.due("parts()", want, x::parts);
    }

    private static void dueShare(SpectrumParts x, int library, long above, long below) {
        CHECKS.due("share(" + library + ", 0)", above, () -> x.share(library, 0));
        CHECKS.due("share(" + library + ", 1)", below, () -> x.share(library, 1));
    }

    private static void dueLeast(SpectrumParts x, int want) {
        CHECKS.due("least()", want, () -> Make.least(x));
    }

    private static void threeLibraries() {
        CHECKS.sentence("A library, all 0: its number. IllegalStateException: there are three.");
        SpectrumParts x = new SpectrumParts(4);
        for (int k = 0; k < 3; k++) {
            int number = k;
            CHECKS.due("library()", number, x::library);
            CHECKS.due("how many", number + 1, () -> x.count(2));
        }
        CHECKS.refuses("a fourth", Checks.STATE, x::library);
        CHECKS.refuses("a fourth again", Checks.STATE, x::library);
        CHECKS.due("three stay", 3, () -> x.count(2));
    }

    private static void allNothing() {
        CHECKS.sentence("LIBRARIES 0 .. 2 have an entry 0 .. 20 for each channel (0 at first).");
        for (int channels : new int[] {4, 24}) {
            SpectrumParts x = new SpectrumParts(channels);
            for (int k = 0; k < 3; k++) {
                int library = x.library();
                for (int i = 0; i < channels; i++) {
                    int channel = i;
                    CHECKS.due("entry(" + k + ", " + i + ", 20)", 0, () -> x.entry(library, channel, 20));
                }
            }
        }
    }

    private static void noSuchLibraryOfEntry() {
        CHECKS.sentence("An entry: what it was. IndexOutOfBoundsException (library)");
        SpectrumParts x = new SpectrumParts(4);
        for (int made = 0; made <= 3; made++) {
            CHECKS.refusesEach("entry of " + made + " libraries", Checks.INDEX, k -> x.entry(k, 0, 1), LOW, -1, made, 3, HIGH);
            CHECKS.refuses("entry, v wrong too", Checks.INDEX, () -> x.entry(3, 0, 21));
            if (made > 0) {
                int last = made - 1;
                CHECKS.due("entry of the last one", 0, () -> x.entry(last, 0, 1));
            }
            if (made < 3) {
                x.library();
            }
        }
    }

    private static void noSuchChannelOfEntry() {
        CHECKS.sentence("An entry: what it was. IndexOutOfBoundsException (channel)");
        SpectrumParts x = new SpectrumParts(4);
        x.library();
        CHECKS.refusesEach("entry: channel", Checks.INDEX, c -> x.entry(0, c, 1), LOW, -4, -1, 4, 5, 23, HIGH);
        CHECKS.refusesEach("entry: channel, and v 21", Checks.INDEX, c -> x.entry(0, c, 21), -1, 4);
        CHECKS.due("the first", 0, () -> x.entry(0, 0, 1));
        CHECKS.due("the last", 0, () -> x.entry(0, 3, 1));
        SpectrumParts y = new SpectrumParts(24);
        y.library();
        CHECKS.due("the last of 24", 0, () -> y.entry(0, 23, 1));
        CHECKS.refusesEach("entry: channel of 24", Checks.INDEX, c -> y.entry(0, c, 1), LOW, -1, 24, 25, HIGH);
    }

    private static void entryBounds() {
        CHECKS.sentence("IllegalArgumentException: v is not 0 .. 20.");
        SpectrumParts x = new SpectrumParts(4);
        x.library();
        for (int channel : new int[] {0, 3}) {
            CHECKS.due("entry 20", 0, () -> x.entry(0, channel, 20));
            CHECKS.refusesEach("entry: v", Checks.ARGUMENT, v -> x.entry(0, channel, v), LOW, -20, -1, 21, 22, 65536, HIGH);
            CHECKS.due("entry 0", 20, () -> x.entry(0, channel, 0));
            CHECKS.due("entry 1", 0, () -> x.entry(0, channel, 1));
            CHECKS.due("entry 19", 1, () -> x.entry(0, channel, 19));
        }
    }

    private static void partsOfNothing() {
        CHECKS.sentence("Solves for the shares of all libraries (none, all 0, or no net)");
        SpectrumParts x = Make.spectrum(9, 9, 9, 9);
        dueParts(x, 0);
        x.library();
        dueParts(x, 0);
        dueShare(x, 0, 0, 1);
        x.library();
        x.library();
        dueParts(x, 0);
        x.entry(2, 3, 1);
        dueParts(x, 4);
        x.told(3, 0);
        dueParts(x, 0);
        dueShare(x, 2, 0, 1);
        x.told(3, 9);
        x.background(0);
        dueParts(x, 0);
    }

    private static void everySet() {
        CHECKS.sentence("the number of the set that is taken (bit k of it is library k)");
        SpectrumParts x = new SpectrumParts(4);
        Make.addLibrary(x, 1, 0, 0, 0);
        Make.addLibrary(x, 0, 1, 0, 0);
        Make.addLibrary(x, 0, 0, 0, 1);
        for (int set = 0; set < 8; set++) {
            Make.tell(x, set & 1, set >> 1 & 1, 7, set >> 2 & 1);
            dueParts(x, set);
            for (int k = 0; k < 3; k++) {
                dueShare(x, k, set >> k & 1, 1);
            }
        }
    }

    private static void noneBelow() {
        CHECKS.sentence("such that with shares solved for these alone .. none is below 0");
        SpectrumParts x = Make.spectrum(9, 0, 1, 0);
        Make.addLibrary(x, 1, 1, 0, 0);
        Make.addLibrary(x, 0, 2, 1, 0);
        // 2 p + 2 q = 9, 2 p + 5 q = 1: q would be -8 / 3
        dueParts(x, 1);
        dueShare(x, 0, 9, 2);
        dueShare(x, 1, 0, 1);
        SpectrumParts edge = Make.spectrum(5, 5, 0, 0);
        Make.addLibrary(edge, 1, 1, 0, 0);
        Make.addLibrary(edge, 1, 0, 0, 0);
        // both together: library 1 gets exactly 0, so that one alone will do
        dueParts(edge, 1);
        edge.told(1, 4);
        // the net 5, 4: 4 of library 0 and 1 of library 1
        dueParts(edge, 3);
        dueShare(edge, 0, 4, 1);
        dueShare(edge, 1, 1, 1);
        edge.told(1, 6);
        // 6 and -1, so library 0 alone: 11 / 2
        dueParts(edge, 1);
        dueShare(edge, 0, 11, 2);
    }

    private static void noneBelowOfPairs() {
        CHECKS.sentence("none is below 0, and with those (0 for all others) they are the least");
        SpectrumParts x = Make.spectrum(8, 1, 2, 10);
        Make.addLibrary(x, 0, 1, 0, 0);
        Make.addLibrary(x, 1, 1, 1, 0);
        Make.addLibrary(x, 1, 0, 1, 0);
        // library 1 is 0 and 2 together: set 3 has the same sum as set 5, with -4 and 5 for 1 and 5
        dueParts(x, 5);
        dueShare(x, 0, 1, 1);
        dueShare(x, 1, 0, 1);
        dueShare(x, 2, 5, 1);
        SpectrumParts y = Make.spectrum(10, 6, 0, 0);
        Make.addLibrary(y, 0, 1, 1, 0);
        Make.addLibrary(y, 1, 1, 1, 0);
        Make.addLibrary(y, 1, 0, 0, 1);
        // set 3 has -7 and 10; set 6: 3 p + q = 16, p + 2 q = 10
        dueParts(y, 6);
        dueShare(y, 1, 22, 5);
        dueShare(y, 2, 14, 5);
        SpectrumParts z = Make.spectrum(0, 1, 0, 22);
        Make.addLibrary(z, 0, 0, 2, 0);
        Make.addLibrary(z, 0, 1, 0, 1);
        Make.addLibrary(z, 0, 1, 2, 2);
        // set 5 has -9 and 9; set 6: 2 p + 3 q = 23, 3 p + 9 q = 45
        dueParts(z, 6);
        dueShare(z, 1, 8, 1);
        dueShare(z, 2, 7, 3);
        SpectrumParts hardly = Make.spectrum(0, 0, 1, 4);
        Make.addLibrary(hardly, 0, 1, 0, 0);
        Make.addLibrary(hardly, 0, 1, 1, 0);
        Make.addLibrary(hardly, 1, 0, 1, 0);
        // set 3 has -1 and 1; set 6: 2 p + q = 1, p + 2 q = 1
        dueParts(hardly, 6);
        dueShare(hardly, 1, 1, 3);
        dueShare(hardly, 2, 1, 3);
    }

    private static void theOnlyOnes() {
        CHECKS.sentence("(by the only ones that have the least sum, below 0 or not)");
        SpectrumParts same = Make.spectrum(6, 0, 3, 0);
        Make.addLibrary(same, 2, 0, 1, 0);
        Make.addLibrary(same, 2, 0, 1, 0);
        dueParts(same, 1);
        dueShare(same, 0, 3, 1);
        dueShare(same, 1, 0, 1);
        SpectrumParts doubled = Make.spectrum(6, 1, 3, 0);
        Make.addLibrary(doubled, 4, 0, 2, 0);
        Make.addLibrary(doubled, 2, 0, 1, 0);
        Make.addLibrary(doubled, 0, 2, 0, 0);
        // libraries 0 and 1 hang together: a set with both has no only shares
        dueParts(doubled, 5);
        dueShare(doubled, 0, 3, 2);
        dueShare(doubled, 1, 0, 1);
        dueShare(doubled, 2, 1, 2);
        SpectrumParts nothing = Make.spectrum(6, 1, 3, 0);
        Make.addLibrary(nothing, 0, 0, 0, 0);
        Make.addLibrary(nothing, 2, 0, 1, 0);
        dueParts(nothing, 2);
        dueShare(nothing, 0, 0, 1);
    }

    private static void fewest() {
        CHECKS.sentence("parts() takes the one with the fewest libraries");
        SpectrumParts x = Make.spectrum(3, 3, 0, 0);
        Make.addLibrary(x, 1, 0, 0, 0);
        Make.addLibrary(x, 0, 1, 0, 0);
        Make.addLibrary(x, 1, 1, 0, 0);
        // sets 3 and 4 both leave nothing
        dueParts(x, 4);
        x.told(1, 4);
        // sets 3 and 6 both leave nothing
        dueParts(x, 3);
        x.told(1, 0);
        dueParts(x, 1);
    }

    private static void lesserNumber() {
        CHECKS.sentence("of equally many the one with the lesser number");
        SpectrumParts one = Make.spectrum(6, 6, 0, 0);
        Make.addLibrary(one, 3, 3, 0, 0);
        Make.addLibrary(one, 2, 2, 0, 0);
        Make.addLibrary(one, 1, 1, 0, 0);
        dueParts(one, 1);
        dueShare(one, 0, 2, 1);
        one.entry(0, 0, 0);
        dueParts(one, 2);
        dueShare(one, 1, 3, 1);
        one.entry(1, 0, 0);
        dueParts(one, 4);
        SpectrumParts two = Make.spectrum(3, 4, 0, 0);
        Make.addLibrary(two, 1, 1, 0, 0);
        Make.addLibrary(two, 0, 1, 0, 0);
        Make.addLibrary(two, 0, 2, 0, 0);
        // sets 3 and 5 both leave nothing
        dueParts(two, 3);
        two.entry(1, 1, 0);
        dueParts(two, 5);
        dueShare(two, 2, 1, 2);
        SpectrumParts outer = Make.spectrum(4, 3, 0, 0);
        Make.addLibrary(outer, 1, 0, 0, 0);
        Make.addLibrary(outer, 2, 0, 0, 0);
        Make.addLibrary(outer, 1, 1, 0, 0);
        // sets 5 and 6 both leave nothing
        dueParts(outer, 5);
        dueShare(outer, 0, 1, 1);
        dueShare(outer, 2, 3, 1);
    }

    private static void thereAlwaysIsOne() {
        CHECKS.sentence("(There always is one.)");
        // all small libraries of two channels, three at a time, also those that hang together
        for (int net = 0; net < 9; net++) {
            for (int code = 0; code < 729; code++) {
                SpectrumParts x = Make.spectrum(net % 3, net / 3, 0, 0);
                for (int k = 0, rest = code; k < 3; k++, rest /= 9) {
                    Make.addLibrary(x, rest % 3, rest / 3 % 3);
                }
                int set = x.parts();
                CHECKS.told("parts() of net " + net + ", libraries " + code + ": 0 .. 7", "true", Boolean.toString(set >= 0 && set < 8));
                dueLeast(x, 1);
            }
        }
    }

    private static void greatNumbers() {
        CHECKS.sentence("as a fraction that cannot be lessened (of the greatest counts and entries)");
        SpectrumParts x = Make.level(24, 500);
        int library = x.library();
        for (int i = 0; i < 24; i++) {
            x.entry(library, i, 20);
        }
        dueParts(x, 1);
        dueShare(x, 0, 25, 1);
        x.told(23, 499);
        // (23 * 500 + 499) * 20 / 9600 = 11999 / 480
        dueParts(x, 1);
        dueShare(x, 0, 11999, 480);
        SpectrumParts y = Make.spectrum(500, 0, 0, 1);
        Make.addLibrary(y, 1, 0, 0, 0);
        Make.addLibrary(y, 0, 0, 0, 20);
        dueParts(y, 3);
        dueShare(y, 0, 500, 1);
        dueShare(y, 1, 1, 20);
        SpectrumParts near = Make.level(24, 500);
        for (int k = 0; k < 3; k++) {
            near.library();
            for (int i = 0; i < 24; i++) {
                near.entry(k, i, i == 23 - k ? 19 : 20);
            }
        }
        // the net less s times 20, plus the share where an entry is 19: with the shares p alike and
        // s = 3 p, 21 channels leave 500 - 60 p and three leave 500 - 59 p
        dueParts(near, 7);
        long above = 21L * 60 * 500 + 3L * 59 * 500;
        long below = 21L * 60 * 60 + 3L * 59 * 59;
        long divisor = java.math.BigInteger.valueOf(above).gcd(java.math.BigInteger.valueOf(below)).longValueExact();
        for (int k = 0; k < 3; k++) {
            dueShare(near, k, above / divisor, below / divisor);
        }
        dueLeast(near, 1);
        near.told(0, 499);
        dueLeast(near, 0);
    }

    private static void lowestTerms() {
        CHECKS.sentence("as a fraction that cannot be lessened: above (0) or below (1)");
        int[][] rows = {{6, 4, 3, 2}, {8, 4, 2, 1}, {4, 4, 1, 1}, {1, 20, 1, 20}, {500, 20, 25, 1}, {7, 3, 7, 3}, {0, 5, 0, 1}};
        for (int[] row : rows) {
            SpectrumParts x = Make.spectrum(0, row[0], 0, 0);
            Make.addLibrary(x, 0, row[1], 0, 0);
            x.parts();
            dueShare(x, 0, row[2], row[3]);
        }
    }

    private static void notInTheSet() {
        CHECKS.sentence("0 / 1 of one that is not in the set");
        SpectrumParts x = Make.spectrum(0, 3, 0, 0);
        Make.addLibrary(x, 5, 0, 0, 0);
        Make.addLibrary(x, 0, 2, 0, 0);
        Make.addLibrary(x, 0, 4, 5, 0);
        dueParts(x, 2);
        dueShare(x, 0, 0, 1);
        dueShare(x, 1, 3, 2);
        dueShare(x, 2, 0, 1);
    }

    private static void toldLater() {
        CHECKS.sentence("0 / 1 of one that .. was told later");
        SpectrumParts x = Make.spectrum(3, 3, 3, 3);
        dueParts(x, 0);
        Make.addLibrary(x, 1, 0, 0, 0);
        dueShare(x, 0, 0, 1);
        dueParts(x, 1);
        Make.addLibrary(x, 2, 1, 0, 0);
        Make.addLibrary(x, 0, 1, 1, 1);
        dueShare(x, 0, 3, 1);
        dueShare(x, 1, 0, 1);
        dueShare(x, 2, 0, 1);
        dueParts(x, 5);
        dueShare(x, 2, 3, 1);
    }

    private static void latestParts() {
        CHECKS.sentence("A share by the latest parts()");
        SpectrumParts x = Make.spectrum(3, 0, 0, 0);
        Make.addLibrary(x, 2, 0, 0, 0);
        dueParts(x, 1);
        x.told(0, 500);
        dueShare(x, 0, 3, 2);
        x.entry(0, 0, 1);
        dueShare(x, 0, 3, 2);
        x.background(0);
        dueShare(x, 0, 3, 2);
        dueLeast(x, 0);
        dueShare(x, 0, 3, 2);
        dueParts(x, 0);
        dueShare(x, 0, 0, 1);
    }

    private static void noSuchLibraryOfShare() {
        CHECKS.sentence("IndexOutOfBoundsException: library");
        SpectrumParts x = new SpectrumParts(4);
        x.parts();
        for (int made = 0; made <= 3; made++) {
            CHECKS.refusesEach("share of " + made + " libraries", Checks.INDEX, k -> x.share(k, 0), LOW, -1, made, 3, HIGH);
            if (made > 0) {
                dueShare(x, made - 1, 0, 1);
            }
            if (made < 3) {
                x.library();
            }
        }
    }

    private static void noSuchPart() {
        CHECKS.sentence("IndexOutOfBoundsException: .. or part");
        SpectrumParts x = new SpectrumParts(4);
        x.library();
        x.parts();
        CHECKS.refusesEach("share: part", Checks.INDEX, p -> x.share(0, p), LOW, -2, -1, 2, 3, HIGH);
        dueShare(x, 0, 0, 1);
    }

    private static void noPartsOfShare() {
        CHECKS.sentence("IllegalStateException: there were no parts() (share)");
        SpectrumParts x = Make.spectrum(1, 1, 1, 1);
        CHECKS.refuses("share of no library", Checks.INDEX, () -> x.share(0, 0));
        x.library();
        CHECKS.refusesEach("share: part", Checks.STATE, p -> x.share(0, p), 0, 1);
        CHECKS.refusesEach("no such part comes first", Checks.INDEX, p -> x.share(0, p), -1, 2);
        CHECKS.refusesEach("no such library comes first", Checks.INDEX, k -> x.share(k, 0), -1, 1);
        x.parts();
        dueShare(x, 0, 0, 1);
    }

    private static void leastAsItIsNow() {
        CHECKS.sentence("Whether these shares are the least for all as it is now.");
        SpectrumParts x = Make.spectrum(4, 4, 0, 0);
        Make.addLibrary(x, 1, 1, 0, 0);
        dueParts(x, 1);
        dueLeast(x, 1);
        x.told(0, 5);
        dueLeast(x, 0);
        x.told(0, 3);
        dueLeast(x, 0);
        x.told(1, 5);
        dueLeast(x, 1);
        x.library();
        dueLeast(x, 1);
        // the first channel is left -1: a share of library 1 would make it worse
        x.entry(1, 0, 1);
        dueLeast(x, 1);
        // both channels: -1 and 1 weigh up
        x.entry(1, 1, 1);
        dueLeast(x, 1);
        x.entry(1, 1, 2);
        dueLeast(x, 0);
        x.entry(1, 1, 1);
        dueLeast(x, 1);
        x.told(2, 1);
        dueLeast(x, 1);
        x.entry(1, 2, 1);
        dueLeast(x, 0);
        x.told(2, 0);
        x.background(1);
        dueLeast(x, 0);
    }

    private static void leastByOne() {
        CHECKS.sentence("if no others, none below 0, have a lesser sum over all channels of the squares");
        // a count that is one too many or too few, at the least share that there is and at a greater one
        for (int net : new int[] {1, 7}) {
            SpectrumParts x = Make.spectrum(0, 0, 0, net);
            Make.addLibrary(x, 0, 0, 0, 1);
            dueParts(x, 1);
            dueLeast(x, 1);
            x.told(3, net + 1);
            dueLeast(x, 0);
            x.told(3, net - 1);
            dueLeast(x, 0);
            x.told(3, net);
            dueLeast(x, 1);
        }
        SpectrumParts none = Make.spectrum(0, 0, 0, 5);
        none.background(0);
        Make.addLibrary(none, 0, 0, 0, 1);
        dueParts(none, 0);
        none.told(3, 4);
        dueLeast(none, 1);
        none.told(3, 6);
        dueLeast(none, 0);
    }

    private static void leastOfNothing() {
        CHECKS.sentence("SHARES x of libraries, none below 0, are the LEAST, if no others .. have a lesser sum (of no library, of no net)");
        SpectrumParts x = Make.spectrum(0, 0, 0, 2);
        x.parts();
        dueLeast(x, 1);
        x.told(3, 500);
        dueLeast(x, 1);
        x.library();
        dueLeast(x, 1);
        x.entry(0, 3, 1);
        dueLeast(x, 0);
        x.told(3, 0);
        dueLeast(x, 1);
        x.told(3, 1);
        dueLeast(x, 0);
        x.background(0);
        dueLeast(x, 1);
    }

    private static void noPartsOfLeast() {
        CHECKS.sentence("IllegalStateException: there were no parts() (least)");
        SpectrumParts x = new SpectrumParts(4);
        CHECKS.refuses("least() of a new object", Checks.STATE, () -> Make.least(x));
        x.library();
        x.told(0, 1);
        CHECKS.refuses("least() with a library", Checks.STATE, () -> Make.least(x));
        CHECKS.refuses("least() again", Checks.STATE, () -> Make.least(x));
        x.parts();
        dueLeast(x, 1);
    }
}
