/** Sentences of the document that name a boundary: channels, counts, the background, peaks (promises 1 to 6). */
public final class SpectrumEdgeTest {
    private static final Checks CHECKS = new Checks();
    private static final int LOW = Checks.LOW;
    private static final int HIGH = Checks.HIGH;

    public static void main(String[] args) {
        channelsBelow();
        channelsAbove();
        nothingAtFirst();
        countAtFirst();
        backgroundAtFirst();
        netAtLeast();
        noSuchChannelTold();
        countBounds();
        lastCallOfAll();
        roundsBounds();
        countsAsTheyAre();
        bothNeighbours();
        meanRoundedDown();
        aheadOfTheRound();
        greatestSum();
        noSuchChannelLowered();
        aboveTheLevel();
        levelBounds();
        aboveTheOneAhead();
        notBelowTheOneBehind();
        firstAndLastChannel();
        fromTheLowestOn();
        mostPeaks();
        spanToLower();
        spanToHigher();
        spanToBothEnds();
        asTheyWereFound();
        noSuchPeak();
        noSuchWhat();
        CHECKS.end();
    }

    private static void duePeak(SpectrumParts x, int k, int... rows) {
        for (int what = 0; what < rows.length; what++) {
            int w = what;
            CHECKS.due("peak(" + k + ", " + w + ")", rows[w], () -> x.peak(k, w));
        }
    }

    private static void dueGround(SpectrumParts x, int... ground) {
        for (int i = 0; i < ground.length; i++) {
            int channel = i;
            CHECKS.due("lowered(" + i + ")", ground[i], () -> x.lowered(channel));
        }
    }

    /** The channels of all peaks above a level, and their number. */
    private static void dueTops(SpectrumParts x, int level, int... channels) {
        CHECKS.due("peaks(" + level + ")", channels.length, () -> x.peaks(level));
        for (int k = 0; k < channels.length; k++) {
            duePeak(x, k, channels[k]);
        }
    }

    private static void dueChannels(int given, int kept) {
        SpectrumParts x = new SpectrumParts(given);
        CHECKS.due("count(0) of " + given, kept, () -> x.count(0));
        CHECKS.due("the first channel of " + given, 0, () -> x.told(0, 1));
        CHECKS.due("the last channel of " + given, 0, () -> x.told(kept - 1, 1));
        CHECKS.refuses("the channel behind the last of " + given, Checks.INDEX, () -> x.told(kept, 1));
    }

    private static void channelsBelow() {
        CHECKS.sentence("CHANNELS, 4 .. 24 (what is given below .. counts as the least ..)");
        for (int given : new int[] {LOW, LOW + 1, -24, -4, -1, 0, 1, 2, 3, 4}) {
            dueChannels(given, 4);
        }
        dueChannels(5, 5);
    }

    private static void channelsAbove() {
        CHECKS.sentence("CHANNELS, 4 .. 24 (what is given .. above that counts as .. the greatest)");
        dueChannels(23, 23);
        for (int given : new int[] {24, 25, 26, 48, 65536, HIGH - 1, HIGH}) {
            dueChannels(given, 24);
        }
    }

    private static void nothingAtFirst() {
        CHECKS.sentence("A spectrum; no peaks, lines, libraries, samples, standards.");
        SpectrumParts x = new SpectrumParts(24);
        for (int what = 1; what <= 4; what++) {
            int w = what;
            CHECKS.due("a new count(" + w + ")", 0, () -> x.count(w));
        }
        CHECKS.refuses("no peak", Checks.INDEX, () -> x.peak(0, 0));
        CHECKS.refuses("no library", Checks.INDEX, () -> x.entry(0, 0, 0));
        CHECKS.refuses("no sample", Checks.INDEX, () -> x.measured(0, 0, 0));
        CHECKS.due("no standard", 7, () -> x.corrected(0, 7));
        for (int element = 0; element < 8; element++) {
            int e = element;
            CHECKS.due("the first line of " + e, 1, () -> x.line(e, 0));
        }
    }

    private static void countAtFirst() {
        CHECKS.sentence("each with a COUNT 0 .. 500 (0 at first)");
        for (int channels : new int[] {4, 24}) {
            SpectrumParts x = new SpectrumParts(channels);
            for (int i = 0; i < channels; i++) {
                int channel = i;
                CHECKS.due("told(" + i + ", 1) of " + channels, 0, () -> x.told(channel, 1));
            }
        }
    }

    private static void backgroundAtFirst() {
        CHECKS.sentence("and a BACKGROUND (0 at first)");
        dueGround(new SpectrumParts(24), new int[24]);
        dueGround(Make.spectrum(500, 1, 2, 500), 0, 0, 0, 0);
    }

    private static void netAtLeast() {
        CHECKS.sentence("NET is the count less the background, 0 at least.");
        SpectrumParts x = Make.level(4, 5);
        x.background(0);
        // the net is 0, 4, 0, 0; without the bound it would be -5, 4, 0, -4
        Make.tell(x, 0, 9, 5, 1);
        dueTops(x, 0, 1);
        duePeak(x, 0, 1, 4, 4, 1, 1);
        Make.addLibrary(x, 1, 1, 0, 0);
        CHECKS.due("parts() by the net", 1, x::parts);
        CHECKS.due("above", 2, () -> x.share(0, 0));
        CHECKS.due("below", 1, () -> x.share(0, 1));
        SpectrumParts y = Make.level(4, 500);
        y.background(0);
        Make.tell(y, 0, 0, 0, 0);
        dueTops(y, 0);
    }

    private static void noSuchChannelTold() {
        CHECKS.sentence("A channel's count: what it was. IndexOutOfBoundsException");
        SpectrumParts x = new SpectrumParts(4);
        CHECKS.refusesEach("told: channel", Checks.INDEX, c -> x.told(c, 1), LOW, -4, -1, 4, 5, 24, HIGH);
        SpectrumParts y = new SpectrumParts(24);
        CHECKS.refusesEach("told: channel", Checks.INDEX, c -> y.told(c, 1), LOW, -1, 24, 25, HIGH);
        CHECKS.refusesEach("told: channel, and v 501", Checks.INDEX, c -> y.told(c, 501), -1, 24);
    }

    private static void countBounds() {
        CHECKS.sentence("IllegalArgumentException: v is not 0 .. 500.");
        SpectrumParts x = new SpectrumParts(4);
        for (int channel : new int[] {0, 3}) {
            CHECKS.due("told 500", 0, () -> x.told(channel, 500));
            CHECKS.refusesEach("told: v", Checks.ARGUMENT, v -> x.told(channel, v), LOW, -500, -1, 501, 502, 66036, HIGH);
            CHECKS.due("told 0", 500, () -> x.told(channel, 0));
            CHECKS.due("told 1", 0, () -> x.told(channel, 1));
            CHECKS.due("told 499", 1, () -> x.told(channel, 499));
        }
    }

    private static void lastCallOfAll() {
        CHECKS.sentence("An object is used for at most 512 calls after it has been made");
        SpectrumParts x = new SpectrumParts(24);
        for (int call = 1; call <= 510; call++) {
            x.told(call % 24, call % 500);
        }
        CHECKS.refuses("the 511th", Checks.INDEX, () -> x.told(24, 0));
        // the 504th call told channel 0 a count of 4
        CHECKS.due("the 512th", 4, () -> x.told(0, 0));
    }

    private static void roundsBounds() {
        CHECKS.sentence("IllegalArgumentException: rounds is not 0 .. 12.");
        SpectrumParts x = Make.spectrum(1, 2, 3, 4);
        CHECKS.refusesEach("background", Checks.ARGUMENT, x::background, LOW, -12, -1, 13, 14, 24, HIGH);
        dueGround(x, 0, 0, 0, 0);
        CHECKS.due("background(0)", 10, () -> x.background(0));
        CHECKS.due("background(12)", 10, () -> x.background(12));
    }

    private static void countsAsTheyAre() {
        CHECKS.sentence("the background becomes the counts as they are");
        SpectrumParts x = Make.spectrum(3, 500, 0, 7);
        CHECKS.due("no rounds", 510, () -> x.background(0));
        dueGround(x, 3, 500, 0, 7);
        Make.tell(x, 0, 0, 0, 0);
        CHECKS.due("lower counts later", 0, () -> x.background(0));
        Make.tell(x, 9, 9, 9, 9);
        CHECKS.due("higher counts later", 36, () -> x.background(1));
        CHECKS.due("the same again", 36, () -> x.background(1));
    }

    private static void bothNeighbours() {
        CHECKS.sentence("for each channel i that has channels i - r and i + r");
        SpectrumParts ends = Make.spectrum(500, 0, 0, 500);
        CHECKS.due("the first and the last are not lowered", 1000, () -> ends.background(12));
        dueGround(ends, 500, 0, 0, 500);
        SpectrumParts four = Make.spectrum(0, 100, 100, 0);
        CHECKS.due("four channels, round 1", 100, () -> four.background(1));
        dueGround(four, 0, 50, 50, 0);
        CHECKS.due("four channels, none for round 2", 100, () -> four.background(2));
        CHECKS.due("four channels, none for round 12", 100, () -> four.background(12));
        SpectrumParts five = Make.spectrum(0, 8, 8, 8, 0);
        CHECKS.due("five channels, round 1", 16, () -> five.background(1));
        dueGround(five, 0, 4, 8, 4, 0);
        CHECKS.due("five channels, one for round 2", 8, () -> five.background(2));
        dueGround(five, 0, 4, 0, 4, 0);
        CHECKS.due("five channels, none for round 3", 8, () -> five.background(3));
        SpectrumParts most = Make.level(24, 500);
        Make.tell(most, 0);
        most.told(11, 100);
        most.told(22, 0);
        most.background(10);
        CHECKS.due("channel 11 of 24 ahead of round 11", 100, () -> most.lowered(11));
        int sum = most.background(11);
        CHECKS.due("channel 11 of 24 has both for round 11", 0, () -> most.lowered(11));
        CHECKS.due("none of 24 has both for round 12", sum, () -> most.background(12));
    }

    private static void meanRoundedDown() {
        CHECKS.sentence("the lesser of its background and the mean of theirs, rounded down");
        SpectrumParts x = Make.spectrum(0, 9, 5, 499);
        x.background(1);
        // the means are 5 / 2 and 508 / 2
        dueGround(x, 0, 2, 5, 499);
        SpectrumParts y = Make.spectrum(499, 500, 500, 500);
        y.background(1);
        // the mean of 499 and 500 is 499
        dueGround(y, 499, 499, 500, 500);
        SpectrumParts z = Make.spectrum(0, 1, 1, 0);
        CHECKS.due("means of 1 / 2", 0, () -> z.background(1));
    }

    private static void aheadOfTheRound() {
        CHECKS.sentence("all by the background ahead of the round");
        SpectrumParts x = Make.spectrum(0, 8, 8, 8, 8, 0);
        x.background(1);
        // with a channel lowered already, channel 2 would get 6
        dueGround(x, 0, 4, 8, 8, 4, 0);
        x.background(2);
        // channel 2: the mean of 0 and 4; channel 3: that of 4 and 0
        dueGround(x, 0, 4, 2, 2, 4, 0);
    }

    private static void greatestSum() {
        CHECKS.sentence("Lowers for so many rounds: the sum of the background.");
        SpectrumParts x = Make.level(24, 500);
        CHECKS.due("the greatest sum", 12000, () -> x.background(12));
        CHECKS.due("the least sum", 0, () -> new SpectrumParts(24).background(12));
    }

    private static void noSuchChannelLowered() {
        CHECKS.sentence("A channel's background. IndexOutOfBoundsException.");
        SpectrumParts x = Make.spectrum(7, 8, 9, 10);
        x.background(0);
        CHECKS.due("the first", 7, () -> x.lowered(0));
        CHECKS.due("the last", 10, () -> x.lowered(3));
        CHECKS.refusesEach("lowered", Checks.INDEX, x::lowered, LOW, -4, -1, 4, 5, 23, HIGH);
        SpectrumParts y = new SpectrumParts(24);
        CHECKS.due("the last of 24", 0, () -> y.lowered(23));
        CHECKS.refusesEach("lowered of 24", Checks.INDEX, y::lowered, LOW, -1, 24, 25, HIGH);
    }

    private static void aboveTheLevel() {
        CHECKS.sentence("channels whose net is above it");
        SpectrumParts x = Make.spectrum(0, 7, 0, 1, 0, 500);
        dueTops(x, 0, 1, 3, 5);
        dueTops(x, 1, 1, 5);
        dueTops(x, 6, 1, 5);
        dueTops(x, 7, 5);
        dueTops(x, 499, 5);
        dueTops(x, 500);
        dueTops(new SpectrumParts(24), 0);
    }

    private static void levelBounds() {
        CHECKS.sentence("IllegalArgumentException: level is below 0.");
        SpectrumParts x = Make.spectrum(0, 7, 0, 1);
        CHECKS.refusesEach("peaks", Checks.ARGUMENT, x::peaks, LOW, LOW + 1, -500, -1);
        CHECKS.due("none were looked for", 0, () -> x.count(1));
        dueTops(x, 0, 1, 3);
        dueTops(x, 501);
        dueTops(x, HIGH);
    }

    private static void aboveTheOneAhead() {
        CHECKS.sentence("is above that of the channel ahead");
        dueTops(Make.spectrum(0, 7, 7, 0), 0, 1);
        dueTops(Make.spectrum(0, 7, 8, 0), 0, 2);
        dueTops(Make.spectrum(0, 8, 7, 0), 0, 1);
        dueTops(Make.spectrum(0, 7, 7, 7, 8, 8), 0, 1, 4);
    }

    private static void notBelowTheOneBehind() {
        CHECKS.sentence("and not below that of the one behind");
        dueTops(Make.spectrum(6, 7, 7, 7), 0, 1);
        dueTops(Make.spectrum(6, 7, 7, 9), 0, 1, 3);
        dueTops(Make.spectrum(1, 2, 3, 4), 0, 3);
        dueTops(Make.spectrum(4, 3, 2, 1), 0, 0);
    }

    private static void firstAndLastChannel() {
        CHECKS.sentence("(of channels that there are)");
        dueTops(Make.spectrum(9, 1, 0, 0), 0, 0);
        dueTops(Make.spectrum(0, 0, 1, 9), 0, 3);
        dueTops(Make.spectrum(1, 0, 0, 1), 0, 0, 3);
        dueTops(Make.spectrum(5, 5, 0, 0), 0, 0);
        dueTops(Make.spectrum(0, 0, 5, 5), 0, 2);
        dueTops(Make.spectrum(1, 9, 9, 1), 0, 1);
        dueTops(Make.spectrum(5, 5, 5, 5), 4, 0);
        SpectrumParts x = new SpectrumParts(24);
        x.told(0, 1);
        x.told(23, 1);
        dueTops(x, 0, 0, 23);
    }

    private static void fromTheLowestOn() {
        CHECKS.sentence("from the lowest on");
        dueTops(Make.spectrum(1, 0, 9, 0, 5, 0, 500), 0, 0, 2, 4, 6);
        dueTops(Make.spectrum(500, 0, 5, 0, 9, 0, 1), 0, 0, 2, 4, 6);
    }

    private static void mostPeaks() {
        CHECKS.sentence("Looks for peaks above a level: how many.");
        SpectrumParts even = new SpectrumParts(24);
        SpectrumParts odd = new SpectrumParts(24);
        for (int i = 0; i < 24; i += 2) {
            even.told(i, 500);
            odd.told(i + 1, 500);
        }
        dueTops(even, 499, 0, 2, 4, 6, 8, 10, 12, 14, 16, 18, 20, 22);
        dueTops(odd, 499, 1, 3, 5, 7, 9, 11, 13, 15, 17, 19, 21, 23);
        CHECKS.due("the last one's net", 500, () -> odd.peak(11, 1));
        dueTops(Make.spectrum(1, 0, 1, 0), 0, 0, 2);
    }

    private static void spanToLower() {
        CHECKS.sentence("goes on to lower channels as long as their net is above 0 and below that of the one next above");
        SpectrumParts x = Make.spectrum(0, 2, 5, 0);
        x.peaks(0);
        duePeak(x, 0, 2, 5, 7, 1, 2);
        SpectrumParts y = Make.spectrum(2, 2, 5, 0);
        y.peaks(2);
        duePeak(y, 0, 2, 5, 7, 1, 2);
        SpectrumParts z = Make.spectrum(3, 2, 5, 0);
        z.peaks(3);
        duePeak(z, 0, 2, 5, 7, 1, 2);
        SpectrumParts one = Make.spectrum(0, 1, 2, 0);
        one.peaks(0);
        duePeak(one, 0, 2, 2, 3, 1, 2);
    }

    private static void spanToHigher() {
        CHECKS.sentence("and on to higher ones as long as it is above 0 and not above that of the one next below");
        SpectrumParts x = Make.spectrum(5, 2, 0, 0);
        x.peaks(0);
        duePeak(x, 0, 0, 5, 7, 0, 1);
        SpectrumParts y = Make.spectrum(5, 2, 2, 3);
        y.peaks(3);
        duePeak(y, 0, 0, 5, 9, 0, 2);
        SpectrumParts z = Make.spectrum(5, 5, 1, 0);
        z.peaks(0);
        duePeak(z, 0, 0, 5, 11, 0, 2);
        // the channel between two peaks is of both spans
        SpectrumParts both = Make.spectrum(0, 4, 1, 6, 0);
        both.peaks(0);
        duePeak(both, 0, 1, 4, 5, 1, 2);
        duePeak(both, 1, 3, 6, 7, 2, 3);
    }

    private static void spanToBothEnds() {
        CHECKS.sentence("its AREA is the net of all these");
        SpectrumParts x = Make.spectrum(1, 2, 4, 3);
        x.peaks(3);
        duePeak(x, 0, 2, 4, 10, 0, 3);
        SpectrumParts falling = Make.spectrum(4, 3, 2, 1);
        falling.peaks(0);
        duePeak(falling, 0, 0, 4, 10, 0, 3);
        SpectrumParts rising = Make.spectrum(1, 2, 3, 4);
        rising.peaks(0);
        duePeak(rising, 0, 3, 4, 10, 0, 3);
        SpectrumParts flat = Make.level(24, 500);
        flat.peaks(0);
        duePeak(flat, 0, 0, 500, 12000, 0, 23);
        SpectrumParts alone = Make.spectrum(0, 0, 0, 1);
        alone.peaks(0);
        duePeak(alone, 0, 3, 1, 1, 3, 3);
    }

    private static void asTheyWereFound() {
        CHECKS.sentence("They stay as they were found.");
        SpectrumParts x = Make.spectrum(3, 0, 7, 2);
        x.peaks(0);
        Make.tell(x, 0, 500, 0, 0);
        duePeak(x, 1, 2, 7, 9, 2, 3);
        x.background(0);
        duePeak(x, 1, 2, 7, 9, 2, 3);
        CHECKS.due("still two", 2, () -> x.count(1));
        dueTops(x, 0);
        CHECKS.due("none when none are found", 0, () -> x.count(1));
        CHECKS.refuses("peak(0, 0)", Checks.INDEX, () -> x.peak(0, 0));
        Make.tell(x, 0, 500, 500, 0);
        dueTops(x, 0, 2);
        CHECKS.refuses("one of two is gone", Checks.INDEX, () -> x.peak(1, 0));
    }

    private static void noSuchPeak() {
        CHECKS.sentence("IndexOutOfBoundsException: there is none");
        SpectrumParts x = Make.spectrum(3, 0, 7, 2);
        CHECKS.refusesEach("peak, none looked for", Checks.INDEX, k -> x.peak(k, 0), LOW, -1, 0, 1, HIGH);
        x.peaks(0);
        CHECKS.due("the last one", 2, () -> x.peak(1, 0));
        CHECKS.refusesEach("peak of two", Checks.INDEX, k -> x.peak(k, 0), LOW, -2, -1, 2, 3, 4, 24, HIGH);
    }

    private static void noSuchWhat() {
        CHECKS.sentence("or what is none of these");
        SpectrumParts x = Make.spectrum(3, 0, 7, 2);
        x.peaks(0);
        duePeak(x, 0, 0, 3, 3, 0, 0);
        duePeak(x, 1, 2, 7, 9, 2, 3);
        CHECKS.refusesEach("peak: what", Checks.INDEX, what -> x.peak(1, what), LOW, -5, -1, 5, 6, HIGH);
    }
}
