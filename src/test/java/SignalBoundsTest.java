import java.util.NoSuchElementException;

/** Sections 2, 3 and 6 of the document, sentence by sentence: stress, where a lane works, its eyes and their edges. */
public final class SignalBoundsTest {
    private static final int NONE = LinkTraining.NONE;

    private SignalBoundsTest() { }

    /** A lane whose taps are 1 ps apart. */
    private static LinkTraining fine(String rate, String lane, String rest) {
        return Feed.loaded("link step 1 taps 128 vrefs 9;rate r " + rate + ";lane l " + lane + ";" + rest);
    }

    private static void run(String bits, int longest, int changes) {
        LinkTraining x = Links.ofPatterns("stress run 50 change 1;", bits);
        Sentence.same("longestRun of " + bits, x.longestRun(0), longest);
        Sentence.same("changes of " + bits, x.changes(0), changes);
        Sentence.same("penalty of " + bits, x.penalty(0), 50 * (longest - 1) + changes);
    }

    private static int longest(String bits) {
        String sent = bits.repeat(4);
        int length = 0;
        while (sent.contains("0".repeat(length + 1)) || sent.contains("1".repeat(length + 1))) {
            length++;
        }
        return Math.min(length, bits.length());
    }

    private static int changes(String bits) {
        int changes = 0;
        for (int i = 0; i < bits.length(); i++) {
            changes += bits.charAt(i) != (bits + bits).charAt(i + 1) ? 1 : 0;
        }
        return changes;
    }

    private static void stress() {
        Sentence.of("Its runs are the maximal sequences of equal bits in this endless repetition");
        run("10", 1, 2);
        run("110", 2, 2);
        run("101", 2, 2);
        run("011", 2, 2);
        run("1110111", 6, 2);
        run("0001000", 6, 2);
        run("0000000100000000", 15, 2);
        run("1111111101111111", 15, 2);
        run("1000000000000000", 15, 2);
        run("0000000000000001", 15, 2);
        run("0000000011111111", 8, 2);
        run("0111001110", 3, 4);
        Sentence.of("if all bits are equal, the longest run is the number of bits of the pattern");
        for (int length = 1; length <= 16; length++) {
            run("0".repeat(length), length, 0);
            run("1".repeat(length), length, 0);
        }
        Sentence.of("Its changes are the number of places i at which bit i and the following one (after the last one the "
                + "first one) are different.");
        run("01", 1, 2);
        run("001", 2, 2);
        run("0110", 2, 2);
        run("0101", 1, 4);
        run("01010", 2, 4);
        run("0101010101010101", 1, 16);
        run("1010101010101010", 1, 16);
        run("010101010101010", 2, 14);
        for (int length = 1; length <= 9; length++) {
            for (int n = 0; n < 1 << length; n++) {
                String bits = Integer.toBinaryString(1 << length | n).substring(1);
                run(bits, longest(bits), changes(bits));
            }
        }
        Sentence.of("Its penalty is R * (length of the longest run - 1) + C * changes");
        LinkTraining most = Links.ofPatterns("stress run 50 change 50;", "0000000000000000", "0101010101010101", "1", "01");
        Sentence.same("16 equal bits", most.penalty(0), 750);
        Sentence.same("16 changes", most.penalty(1), 800);
        Sentence.same("one bit", most.penalty(2), 0);
        Sentence.same("two bits", most.penalty(3), 100);
        Sentence.same("the worst", most.worstPattern(), 1);
        LinkTraining nothing = Links.ofPatterns("stress run 0 change 0;", "0000000000000000", "01");
        Sentence.same("with R and C 0", nothing.penalty(0), 0);
        Sentence.of("worstPattern: the lowest number among equals; NONE if there are no patterns.");
        Sentence.same("no patterns", new LinkTraining().worstPattern(), NONE);
        Sentence.same("equal ones", nothing.worstPattern(), 0);
        Sentence.same("one", Links.ofPatterns("", "0").worstPattern(), 0);
        Sentence.same("the last of six", Links.ofPatterns("stress run 1 change 0;", "0", "0", "0", "0", "0", "00")
                .worstPattern(), 5);
        Sentence.same("the first of two worst", Links.ofPatterns("stress run 1 change 0;", "0", "00", "0", "11", "0", "1")
                .worstPattern(), 1);
    }

    /** The offset at tap 0 of a lane with skew 1000. */
    private static void shift(String drift, int temperature, int due) {
        LinkTraining x = fine("period 100 jitter 0", "skew 1000 width 1 vref 0 slope 0 drift " + drift, "pattern p 0;");
        x.setTemperature(temperature);
        Sentence.same("drift " + drift + " at " + temperature, -1000 - x.offset(0, 0), due);
    }

    private static void temperatures() {
        Sentence.of("a present temperature in tenths of a degree (-400 to 1250, at first 0)");
        LinkTraining x = fine("period 100 jitter 0", "skew 1000 width 1 vref 0 slope 0 drift 50", "pattern p 0;");
        Sentence.same("at first", x.temperature(), 0);
        Sentence.same("offset at first", x.offset(0, 0), -1000);
        Sentence.same("the lowest", x.setTemperature(-400), 0);
        Sentence.same("offset there", x.offset(0, 0), -800);
        Sentence.same("the highest", x.setTemperature(1250), -400);
        Sentence.same("offset there", x.offset(0, 0), -1625);
        for (int beyond : new int[] {-401, 1251, Integer.MIN_VALUE, Integer.MAX_VALUE}) {
            Sentence.refuses("setTemperature(" + beyond + ")", x, IllegalArgumentException.class,
                    y -> y.setTemperature(beyond));
            Sentence.same("it stays", x.temperature(), 1250);
        }
        Sentence.of("a present rate (at first rate 0)");
        LinkTraining two = Feed.loaded(Links.TWO);
        Sentence.same("at first", two.rate(), 0);
        Sentence.same("half at first", two.half(0, 1, 0), 35);
        Sentence.same("setRate(1)", two.setRate(1), 0);
        Sentence.same("half then", two.half(0, 1, 0), 75);
        Sentence.refuses("setRate(2)", two, IndexOutOfBoundsException.class, y -> y.setRate(2));
        Sentence.refuses("setRate(-1)", two, IndexOutOfBoundsException.class, y -> y.setRate(-1));
        Sentence.same("it stays", two.rate(), 1);
        Sentence.of("tap * step - (skew + drift * temperature / 100) (the division truncates toward zero)");
        for (String sign : new String[] {"", "minus "}) {
            int s = sign.isEmpty() ? 1 : -1;
            shift(sign + "1", 99, 0);
            shift(sign + "1", 100, s);
            shift(sign + "1", 199, s);
            shift(sign + "1", -99, 0);
            shift(sign + "1", -100, -s);
            shift(sign + "1", -199, -s);
            shift(sign + "7", 14, 0);
            shift(sign + "7", 15, s);
            shift(sign + "7", -14, 0);
            shift(sign + "7", -15, -s);
            shift(sign + "50", 1, 0);
            shift(sign + "50", 2, s);
            shift(sign + "50", 3, s);
            shift(sign + "50", -3, -s);
            shift(sign + "50", 1250, s * 625);
            shift(sign + "50", 1249, s * 624);
            shift(sign + "50", -400, s * -200);
            shift(sign + "50", -399, s * -199);
            shift(sign + "0", 1250, 0);
        }
        LinkTraining far = Feed.loaded("link step 50 taps 128 vrefs 1;rate r period 100 jitter 0;"
                + "lane l skew 4000 width 1 vref 0 slope 0 drift 50;"
                + "lane m skew 0 width 1 vref 0 slope 0 drift minus 50;pattern p 0;");
        far.setTemperature(1250);
        Sentence.same("the least offset", far.offset(0, 0), -4625);
        Sentence.same("the greatest offset", far.offset(1, 127), 6975);
        Sentence.same("the least bit", far.bitAt(0, 0), -46);
        Sentence.same("its phase", far.phase(0, 0), -25);
        Sentence.same("the greatest bit", far.bitAt(1, 127), 70);
        Sentence.same("its phase", far.phase(1, 127), -25);
    }

    /** Bit and phase at an offset: a negative one is that of tap 0, for the skew makes it. */
    private static void sample(int period, int offset, int bit, int phase) {
        int skew = Math.max(0, -offset);
        LinkTraining x = fine("period " + period + " jitter 0", "skew " + skew + " width 1 vref 0 slope 0", "pattern p 0;");
        int tap = offset + skew;
        Sentence.same("the offset", x.offset(0, tap), offset);
        Sentence.same("bit at " + offset + " of " + period, x.bitAt(0, tap), bit);
        Sentence.same("phase at " + offset + " of " + period, x.phase(0, tap), phase);
    }

    private static void bits() {
        Sentence.of("its bit is the greatest integer b with b * P <= offset + P / 2 (P / 2 rounded down), and its phase is "
                + "offset - b * P");
        sample(100, 0, 0, 0);
        sample(100, 49, 0, 49);
        sample(100, 50, 1, -50);
        sample(100, 51, 1, -49);
        sample(100, -49, 0, -49);
        sample(100, -50, 0, -50);
        sample(100, -51, -1, 49);
        sample(100, -100, -1, 0);
        sample(100, -149, -1, -49);
        sample(100, -150, -1, -50);
        sample(100, -151, -2, 49);
        sample(100, -4000, -40, 0);
        sample(101, 50, 0, 50);
        sample(101, 51, 1, -50);
        sample(101, -50, 0, -50);
        sample(101, -51, -1, 50);
        sample(101, -101, -1, 0);
        sample(101, -151, -1, -50);
        sample(101, -152, -2, 50);
        sample(2000, -1000, 0, -1000);
        sample(2000, -1001, -1, 999);
        sample(1999, -999, 0, -999);
        sample(1999, -1000, -1, 999);
    }

    private static void half(String text, int vref, int pattern, int due) {
        Sentence.same("half at " + vref + " of " + text, Feed.loaded("link step 1 taps 4 vrefs 16;" + text)
                .half(0, vref, pattern), due);
    }

    private static void halves() {
        Sentence.of("half the eye is P * width / 2000 (rounded down) - jitter - slope * |v - best reference voltage| - "
                + "penalty");
        String end = " vref 8 slope 0;pattern p 0;";
        half("rate r period 100 jitter 0;lane l skew 0 width 19" + end, 8, 0, 0);
        half("rate r period 100 jitter 0;lane l skew 0 width 20" + end, 8, 0, 1);
        half("rate r period 100 jitter 0;lane l skew 0 width 39" + end, 8, 0, 1);
        half("rate r period 101 jitter 0;lane l skew 0 width 1000" + end, 8, 0, 50);
        half("rate r period 1999 jitter 0;lane l skew 0 width 1000" + end, 8, 0, 999);
        half("rate r period 2000 jitter 0;lane l skew 0 width 1000" + end, 8, 0, 1000);
        half("rate r period 1999 jitter 200;lane l skew 0 width 999" + end, 8, 0, 798);
        half("rate r period 100 jitter 200;lane l skew 0 width 1" + end, 8, 0, -200);
        String sloped = "rate r period 2000 jitter 1;lane l skew 0 width 1000 vref 8 slope 200;pattern p 0;pattern q 01;"
                + "stress run 0 change 3;";
        half(sloped, 8, 0, 999);
        half(sloped, 7, 0, 799);
        half(sloped, 9, 0, 799);
        half(sloped, 0, 0, -601);
        half(sloped, 15, 0, -401);
        half(sloped, 8, 1, 993);
        half(sloped, 15, 1, -407);
        half("rate r period 100 jitter 200;lane l skew 0 width 1 vref 0 slope 200;pattern p 0101010101010101;"
                + "stress run 50 change 50;", 15, 0, -4000);

        Sentence.of("half the eye of the lane for this pattern (possibly negative): no phase passes then");
        for (int half = 1; half >= -1; half--) {
            // P * width / 2000 is 1, the jitter takes 0 to 2 of it; phase 0 is at tap 60.
            LinkTraining x = fine("period 100 jitter " + (1 - half), "skew 60 width 20 vref 0 slope 0", "pattern p 0;");
            Sentence.same("the half", x.half(0, 0, 0), half);
            Sentence.same("taps that work with half " + half, x.eyeArea(0, 0), half < 0 ? 0 : 9 * (2 * half + 1));
            Sentence.same("phase 0 with half " + half, x.works(0, 60, 0), half >= 0);
            Sentence.same("eyes with half " + half, x.eyeCount(0, 0), half < 0 ? 0 : 1);
        }

        Sentence.of("The lane passes the pattern at this tap and reference voltage if |phase| <= half the eye.");
        // Half 30 at voltage 4, 25 at 3 and 5.
        LinkTraining x = fine("period 100 jitter 10", "skew 60 width 800 vref 4 slope 5", "pattern p 0;");
        for (int vref : new int[] {3, 4, 5}) {
            int half = vref == 4 ? 30 : 25;
            for (int side : new int[] {-1, 1}) {
                Sentence.same("just inside", x.test(0, 60 + side * half, vref, 0), true);
                Sentence.same("just outside", x.test(0, 60 + side * (half + 1), vref, 0), false);
                Sentence.same("works just inside", x.works(0, 60 + side * half, vref), true);
                Sentence.same("works just outside", x.works(0, 60 + side * (half + 1), vref), false);
                Sentence.same("no failure just inside", x.firstFailure(0, 60 + side * half, vref), NONE);
                Sentence.same("a failure just outside", x.firstFailure(0, 60 + side * (half + 1), vref), 0);
            }
        }

        Sentence.of("It works there if it passes all patterns.");
        String six = "stress run 1 change 0;pattern a 0;pattern b 00;pattern c 000;pattern d 0000;pattern e 00000;"
                + "pattern f 000000;";
        // Halves 30, 29, 28, 27, 26, 25.
        LinkTraining y = fine("period 100 jitter 10", "skew 60 width 800 vref 0 slope 0", six);
        Sentence.same("passes all", y.works(0, 85, 0), true);
        Sentence.same("passes all", y.firstFailure(0, 85, 0), NONE);
        for (int missed = 0; missed < 6; missed++) {
            int tap = 60 + 31 - missed;
            Sentence.same("misses the last ones from " + missed, y.works(0, tap, 0), false);
            Sentence.same("the first of them", y.firstFailure(0, tap, 0), missed);
            Sentence.same("the first of them", y.test(0, tap, 0, missed), false);
            Sentence.same("the one before", missed == 0 || y.test(0, tap, 0, missed - 1), true);
        }
        LinkTraining z = fine("period 100 jitter 10", "skew 60 width 800 vref 0 slope 0",
                "stress run 1 change 0;pattern a 000000;pattern b 0;");
        Sentence.same("misses the first one alone", z.works(0, 60 + 26, 0), false);
        Sentence.same("misses the first one alone", z.firstFailure(0, 60 + 26, 0), 0);
    }

    private static void eye(LinkTraining x, int vref, int index, int first, int last, int bit) {
        Sentence.same("eye " + index + " at " + vref,
                x.eye(0, vref, index, 0) + ".." + x.eye(0, vref, index, 1) + " of " + x.eye(0, vref, index, 2),
                first + ".." + last + " of " + bit);
    }

    private static void noEye(LinkTraining x, int vref, int count) {
        Sentence.same("eyeCount at " + vref, x.eyeCount(0, vref), count);
        for (int index : new int[] {-1, count, count + 1, Integer.MIN_VALUE, Integer.MAX_VALUE}) {
            for (int what = 0; what < 3; what++) {
                int w = what;
                Sentence.refuses("eye " + index + " at " + vref, x, NoSuchElementException.class,
                        y -> y.eye(0, vref, index, w));
            }
        }
    }

    private static void eyes() {
        Sentence.of("An eye of a lane at a reference voltage is a maximal sequence of adjacent taps at which the lane works "
                + "and which have the same bit.");
        String lane = "rate r period 100 jitter 0;lane l skew 50 width 1000 vref 0 slope 10;pattern p 0;";
        // At voltage 0 all taps work, ten of each bit; at 1 the phases -50 and 40 to 49 do not; at 5 only phase 0 works.
        LinkTraining x = Feed.loaded("link step 10 taps 21 vrefs 7;" + lane);
        eye(x, 0, 0, 0, 9, 0);
        eye(x, 0, 1, 10, 19, 1);
        eye(x, 0, 2, 20, 20, 2);
        noEye(x, 0, 3);
        eye(x, 1, 0, 1, 9, 0);
        eye(x, 1, 1, 11, 19, 1);
        noEye(x, 1, 2);
        eye(x, 5, 0, 5, 5, 0);
        eye(x, 5, 1, 15, 15, 1);
        noEye(x, 5, 2);
        noEye(x, 6, 0);
        LinkTraining part = Feed.loaded("link step 10 taps 4 vrefs 1;" + lane);
        eye(part, 0, 0, 0, 3, 0);
        noEye(part, 0, 1);
        LinkTraining wide = Feed.loaded("link step 50 taps 128 vrefs 1;" + lane);
        // Phases -50 and 0 in turn, two taps a bit.
        eye(wide, 0, 63, 126, 127, 63);
        noEye(wide, 0, 64);

        Sentence.of("eyeArea: the number of settings of the lane with this bit at which it works (bit: -100 to 100).");
        Sentence.same("of bit 0", x.eyeArea(0, 0), 10 + 9 + 7 + 5 + 3 + 1);
        Sentence.same("of bit 2, one tap", x.eyeArea(0, 2), 1);
        for (int bit : new int[] {-100, -1, 3, 100}) {
            Sentence.same("of bit " + bit, x.eyeArea(0, bit), 0);
            Sentence.same("fill of bit " + bit, x.eyeFill(0, bit), 0.0);
        }
        for (int bit : new int[] {-101, 101, Integer.MIN_VALUE, Integer.MAX_VALUE}) {
            Sentence.refuses("of bit " + bit, x, IllegalArgumentException.class, y -> y.eyeArea(0, bit));
            Sentence.refuses("fill of bit " + bit, x, IllegalArgumentException.class, y -> y.eyeFill(0, bit));
        }
        Sentence.of("eyeFill: divided by the number of all settings with this bit, as a double; 0.0 if there are no such "
                + "settings.");
        Sentence.same("of bit 0", x.eyeFill(0, 0), 35.0 / 70.0);
        Sentence.same("of bit 2, one tap", x.eyeFill(0, 2), 1.0 / 7.0);
        Sentence.same("where all settings work", wide.eyeFill(0, 63), 1.0);
        Sentence.same("of a single setting", Feed.loaded("link step 10 taps 21 vrefs 1;" + lane).eyeFill(0, 2), 1.0);
        Sentence.same("of no working setting", fine("period 100 jitter 200", "skew 0 width 1 vref 0 slope 0",
                "pattern p 0;").eyeFill(0, 0), 0.0);
        Sentence.of("eyeHeight: the number of reference voltages at which the lane works at this tap.");
        int[] heights = {1, 2, 3, 4, 5, 6, 5, 4, 3, 2, 1};
        for (int tap = 0; tap < heights.length; tap++) {
            Sentence.same("at tap " + tap, x.eyeHeight(0, tap), heights[tap]);
        }
        Sentence.same("where none works", fine("period 100 jitter 200", "skew 0 width 1 vref 0 slope 0",
                "pattern p 0;").eyeHeight(0, 0), 0);
        Sentence.same("where all work", wide.eyeHeight(0, 127), 1);
    }

    /** Both edges and the number of tests. */
    private static void edges(LinkTraining x, int tap, int first, int last, int tests) {
        Sentence.same("edges from " + tap, x.firstEdge(0, tap, 0) + ".." + x.lastEdge(0, tap, 0) + " by "
                + x.edgeTests(0, tap, 0), first + ".." + last + " by " + tests);
    }

    private static LinkTraining open(int step, int taps, int period, int skew) {
        return Feed.loaded("link step " + step + " taps " + taps + " vrefs 1;rate r period " + period + " jitter 0;"
                + "lane l skew " + skew + " width 1000 vref 0 slope 0;pattern p 0;");
    }

    private static void bisection() {
        Sentence.of("let n be P / (2 * step), rounded down, but at least 1");
        // Every tap works, so that both searches end as far away as they go.
        edges(open(50, 20, 100, 0), 10, 10, 10, 0);
        edges(open(50, 20, 199, 0), 10, 10, 10, 0);
        edges(open(50, 20, 200, 0), 10, 9, 11, 2);
        edges(open(50, 20, 299, 0), 10, 9, 11, 2);
        edges(open(50, 20, 300, 0), 10, 8, 12, 1 + 2);
        edges(open(1, 128, 101, 0), 60, 11, 109, 5 + 6);

        Sentence.of("low is max(-1, t - n), high is t.");
        // n is 5: from tap 4 low is -1, from tap 5 it is 0, which is not tested.
        LinkTraining x = open(10, 20, 100, 0);
        edges(x, 0, 0, 4, 0 + 3);
        edges(x, 1, 0, 5, 1 + 3);
        edges(x, 3, 0, 7, 2 + 3);
        edges(x, 4, 0, 8, 2 + 3);
        edges(x, 5, 1, 9, 2 + 3);
        edges(x, 6, 2, 10, 2 + 3);

        Sentence.of("The last edge is searched in the same way upwards: low is t, high is min(number of taps, t + n).");
        edges(x, 13, 9, 17, 5);
        edges(x, 14, 10, 18, 5);
        edges(x, 15, 11, 19, 5);
        edges(x, 16, 12, 19, 2 + 2);
        edges(x, 18, 14, 19, 2 + 1);
        edges(x, 19, 15, 19, 2 + 0);

        Sentence.of("if the lane works there, high becomes m, otherwise low becomes m. The edge is high.");
        // Half 35: taps 2 to 8 of each ten work.
        LinkTraining two = Feed.loaded("link step 10 taps 32 vrefs 1;rate r period 100 jitter 15;"
                + "lane l skew 50 width 1000 vref 0 slope 0;pattern p 0;");
        edges(two, 2, 2, 6, 2 + 3);
        edges(two, 3, 2, 7, 2 + 3);
        edges(two, 5, 2, 8, 2 + 3);
        edges(two, 7, 3, 8, 2 + 2);
        edges(two, 8, 4, 8, 2 + 2);
        for (int tap : new int[] {0, 1, 9, 10, 11, 31}) {
            Sentence.refuses("firstEdge from " + tap, two, IllegalStateException.class, y -> y.firstEdge(0, tap, 0));
            Sentence.refuses("lastEdge from " + tap, two, IllegalStateException.class, y -> y.lastEdge(0, tap, 0));
            Sentence.refuses("edgeTests from " + tap, two, IllegalStateException.class, y -> y.edgeTests(0, tap, 0));
        }

        Sentence.of("(The search can go wrong if eyes are close together.)");
        // Half 45: tap 10 lies between the eyes of taps 1 to 9 and 11 to 19 and is not met.
        LinkTraining close = Feed.loaded("link step 10 taps 32 vrefs 1;rate r period 100 jitter 5;"
                + "lane l skew 50 width 1000 vref 0 slope 0;pattern p 0;");
        edges(close, 9, 5, 13, 2 + 3);
        edges(close, 11, 7, 15, 2 + 3);
        Sentence.same("the eye's last tap", close.eye(0, 0, 0, 1), 9);
        Sentence.same("the next eye's first tap", close.eye(0, 0, 1, 0), 11);

        Sentence.of("To test a tap means to test the patterns by their numbers, until one is not passed.");
        // Halves 50, 40 and 30: from tap 5, taps 2, 7 and 8 work; 1 and 9 miss the run of three alone.
        patternTests("pattern a 0;pattern b 00;pattern c 000;", 3);
        patternTests("pattern a 0;pattern b 000;pattern c 00;", 2);
        patternTests("pattern a 000;pattern b 00;pattern c 0;", 1);
    }

    private static void patternTests(String patterns, int untilMissed) {
        edges(Feed.loaded("link step 10 taps 32 vrefs 1;rate r period 100 jitter 0;"
                + "lane l skew 50 width 1000 vref 0 slope 0;stress run 10 change 0;" + patterns), 5, 2, 8,
                3 + untilMissed + 3 + 3 + untilMissed);
    }

    public static void main(String[] args) {
        stress();
        temperatures();
        bits();
        halves();
        eyes();
        bisection();
        Sentence.end();
    }
}
