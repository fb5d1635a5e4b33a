/** Sections 4 and 5 of the document, sentence by sentence: margins, scores, best settings, training, the log. */
public final class TrainingBoundsTest {
    private static final Class<IllegalArgumentException> ARGUMENT = IllegalArgumentException.class;
    private static final Class<IndexOutOfBoundsException> INDEX = IndexOutOfBoundsException.class;
    private static final int NONE = LinkTraining.NONE;

    private TrainingBoundsTest() { }

    /** One lane, 10 ps a tap, bits of ten taps from tap 0 on; phase 0 at taps 5, 15, .. */
    private static LinkTraining link(int taps, int vrefs, String rate, String lane) {
        return Feed.loaded("link step 10 taps " + taps + " vrefs " + vrefs + ";rate r " + rate + ";lane l skew 50 "
                + lane + ";pattern p 0;");
    }

    private static LinkTraining lane(int vrefs, String vrefAndSlope) {
        return link(32, vrefs, "period 100 jitter 0", "width 400 " + vrefAndSlope);
    }

    private static void times(LinkTraining x, int vref, int fromTap, int... due) {
        for (int i = 0; i < due.length; i++) {
            Sentence.same("timeMargin at " + (fromTap + i) + ", " + vref, x.timeMargin(0, fromTap + i, vref), due[i]);
        }
    }

    private static void volts(LinkTraining x, int tap, int... due) {
        for (int vref = 0; vref < due.length; vref++) {
            Sentence.same("voltageMargin at " + tap + ", " + vref, x.voltageMargin(0, tap, vref), due[vref]);
        }
    }

    private static void margins() {
        Sentence.of("the time margin is step * min(tap - first tap of the eye, last tap of the eye - tap)");
        LinkTraining touching = link(23, 1, "period 100 jitter 0", "width 1000 vref 0 slope 0");
        times(touching, 0, 0, 0, 10, 20, 30, 40, 40, 30, 20, 10, 0, 0, 10, 20, 30, 40, 40, 30, 20, 10, 0, 0, 10, 0);
        LinkTraining apart = link(32, 1, "period 100 jitter 15", "width 1000 vref 0 slope 0");
        times(apart, 0, 0, NONE, NONE, 0, 10, 20, 30, 20, 10, 0, NONE, NONE, NONE, 0, 10);
        LinkTraining point = link(32, 1, "period 100 jitter 50", "width 1000 vref 0 slope 0");
        times(point, 0, 4, NONE, 0, NONE);
        LinkTraining fast = Feed.loaded("link step 50 taps 128 vrefs 1;rate r period 2000 jitter 0;"
                + "lane l skew 1000 width 1000 vref 0 slope 0;pattern p 0;");
        times(fast, 0, 0, 0, 50, 100);
        times(fast, 0, 19, 950, 950, 900);
        times(fast, 0, 119, 50 * Math.min(119 - 80, 119 - 119), 0, 50);

        Sentence.of("the voltage margin is the greatest k for which the lane works at this tap with all reference voltages "
                + "from v - k to v + k (which must exist)");
        volts(lane(1, "vref 0 slope 0"), 5, 0);
        volts(lane(2, "vref 0 slope 0"), 5, 0, 0);
        volts(lane(3, "vref 0 slope 0"), 5, 0, 1, 0);
        volts(lane(16, "vref 0 slope 0"), 5, 0, 1, 2, 3, 4, 5, 6, 7, 7, 6, 5, 4, 3, 2, 1, 0);
        // Half 20 - 10 * |v - 4|: at phase 0 it works at the voltages 2 to 6, at phase 10 at 3 to 5.
        volts(lane(16, "vref 4 slope 10"), 5, NONE, NONE, 0, 1, 2, 1, 0, NONE, NONE);
        volts(lane(16, "vref 4 slope 10"), 6, NONE, NONE, NONE, 0, 1, 0, NONE, NONE, NONE);
        volts(lane(16, "vref 4 slope 10"), 7, NONE, NONE, NONE, NONE, 0, NONE, NONE, NONE, NONE);
        volts(lane(16, "vref 0 slope 10"), 5, 0, 1, 0, NONE);
        volts(lane(3, "vref 2 slope 10"), 5, 0, 1, 0);
        volts(lane(4, "vref 3 slope 10"), 5, NONE, 0, 1, 0);
        volts(lane(4, "vref 3 slope 200"), 5, NONE, NONE, NONE, 0);
    }

    private static int scoreAt(int step, int period, int vrefs, int tap, int vref) {
        LinkTraining x = Feed.loaded("link step " + step + " taps 128 vrefs " + vrefs + ";rate r period " + period
                + " jitter 0;lane l skew " + period / 2 + " width 1000 vref 0 slope 0;pattern p 0;");
        return x.score(0, tap, vref);
    }

    private static void scores() {
        Sentence.of("The score is the smaller one of 100 * (time margin) / P and 100 * (2 * (voltage margin) + 1) / (number "
                + "of reference voltages), both rounded down.");
        Sentence.same("100 * 40 / 101", scoreAt(10, 101, 1, 4, 0), 39);
        Sentence.same("100 * 10 / 1999", scoreAt(10, 1999, 1, 1, 0), 0);
        Sentence.same("100 * 20 / 2000", scoreAt(10, 2000, 1, 2, 0), 1);
        Sentence.same("100 * 10 / 1000", scoreAt(10, 1000, 1, 1, 0), 1);
        Sentence.same("100 * 10 / 1001", scoreAt(10, 1001, 1, 1, 0), 0);
        Sentence.same("100 * 702 / 1999", scoreAt(13, 1999, 1, 54, 0), 35);
        Sentence.same("100 / 3", scoreAt(10, 100, 3, 4, 0), 33);
        Sentence.same("100 / 3 at the last voltage", scoreAt(10, 100, 3, 4, 2), 33);
        Sentence.same("100 / 16", scoreAt(10, 100, 16, 4, 0), 6);
        Sentence.same("300 / 16", scoreAt(10, 100, 16, 4, 14), 18);
        Sentence.same("500 / 16", scoreAt(10, 100, 16, 4, 2), 31);
        Sentence.same("300 / 7", scoreAt(13, 1300, 7, 50, 1), 42);
        Sentence.same("700 / 16 is more than 40", scoreAt(10, 100, 16, 4, 3), 40);
        Sentence.same("100 / 2 is more than 40", scoreAt(10, 100, 2, 4, 0), 40);
        Sentence.same("a score of 0", scoreAt(10, 100, 1, 0, 0), 0);
        Sentence.same("equal ones: 100 * 20 / 100 and 100 / 5", scoreAt(10, 100, 5, 2, 0), 20);
        Sentence.of("score, timeMargin, voltageMargin: NONE if the lane does not work there.");
        LinkTraining x = lane(3, "vref 0 slope 20");
        Sentence.same("works at phase 20", x.score(0, 7, 0) + " " + x.timeMargin(0, 7, 0) + " "
                + x.voltageMargin(0, 7, 0), "0 0 0");
        Sentence.same("not at phase 30", x.score(0, 8, 0) + " " + x.timeMargin(0, 8, 0) + " "
                + x.voltageMargin(0, 8, 0), "-1 -1 -1");
        Sentence.same("works at half 0", x.score(0, 5, 1) + " " + x.timeMargin(0, 5, 1) + " "
                + x.voltageMargin(0, 5, 1), "0 0 0");
        Sentence.same("not at half -20", x.score(0, 5, 2) + " " + x.timeMargin(0, 5, 2) + " "
                + x.voltageMargin(0, 5, 2), "-1 -1 -1");
    }

    private static void best(LinkTraining x, int bit, int tap, int vref, int score) {
        Sentence.same("the best setting for bit " + bit, x.bestTap(0, bit) + "/" + x.bestVref(0, bit) + " of "
                + x.scoreOf(bit), tap + "/" + vref + " of " + score);
    }

    private static LinkTraining needing(int vrefs, int time, int volts) {
        // Seven taps work of each bit, 2 to 8 of bit 0; the greatest time margin is 30.
        return Feed.loaded("link step 10 taps 32 vrefs " + vrefs + ";rate r period 100 jitter 15;"
                + "lane l skew 50 width 1000 vref 0 slope 0;pattern p 0;margin time " + time + " volts " + volts + ";");
    }

    private static void bestSettings() {
        Sentence.of("A setting is good for a bit if the lane works there, its bit is this one, and both margins are at least "
                + "the required ones.");
        best(needing(1, 30, 0), 0, 5, 0, 30);
        best(needing(1, 31, 0), 0, NONE, NONE, NONE);
        best(needing(1, 0, 1), 0, NONE, NONE, NONE);
        best(needing(5, 30, 0), 0, 5, 1, 30);
        best(needing(5, 30, 1), 0, 5, 1, 30);
        best(needing(5, 30, 2), 0, 5, 2, 30);
        best(needing(5, 30, 3), 0, NONE, NONE, NONE);
        best(needing(6, 0, 2), 0, 5, 2, 30);
        best(needing(6, 0, 3), 0, NONE, NONE, NONE);
        best(needing(16, 0, 7), 2, 25, 7, 30);
        best(needing(16, 0, 8), 2, NONE, NONE, NONE);
        best(needing(1, 0, 0), 3, NONE, NONE, NONE);
        best(needing(1, 0, 0), -1, NONE, NONE, NONE);
        // At tap 30 and 31 bit 3 begins; at half 50 both work, the time margins are 0.
        best(link(32, 1, "period 100 jitter 0", "width 1000 vref 0 slope 0"), 3, 30, 0, 0);

        Sentence.of("The best setting of a lane for a bit is the good one with the greatest score; of several the one with "
                + "the smallest reference voltage, then with the smallest tap.");
        best(link(32, 1, "period 100 jitter 0", "width 1000 vref 0 slope 0"), 1, 14, 0, 40);
        best(link(32, 2, "period 100 jitter 0", "width 1000 vref 1 slope 0"), 1, 14, 0, 40);
        // With half 40 at voltage 0 taps 11 to 19 work, so that tap 15 has 40 too; with half 30 no tap has.
        best(link(32, 2, "period 100 jitter 0", "width 1000 vref 1 slope 10"), 1, 15, 0, 40);
        best(link(32, 2, "period 100 jitter 0", "width 1000 vref 1 slope 20"), 1, 14, 1, 40);
        best(link(32, 2, "period 100 jitter 0", "width 1000 vref 0 slope 10"), 1, 14, 0, 40);
        // 5 ps a tap: time margins of 35, 40 and 45 ps, but a score of 33 by the voltages, which is that of all three.
        String fine = "link step 5 taps 64 vrefs 3;rate r period 100 jitter 0;lane l skew 50 width 1000 vref 0 slope 200;"
                + "pattern p 0;";
        best(Feed.loaded(fine), 0, 7, 0, 33);
        best(Feed.loaded(fine.replace("vref 0", "vref 2")), 1, 27, 2, 33);
        best(Feed.loaded(fine + "margin time 36 volts 0;"), 0, 8, 0, 33);
        best(Feed.loaded(fine + "margin time 45 volts 0;"), 0, 9, 0, 33);
        best(Feed.loaded(fine + "margin time 46 volts 0;"), 0, NONE, NONE, NONE);
        // Voltage margins 0, 1, 1, 0: 75 at most at voltages 1 and 2, where 45 by the time counts.
        best(Feed.loaded(fine.replace("vrefs 3", "vrefs 4").replace("slope 200", "slope 0")), 0, 9, 1, 45);
        // 20 at most at voltage 0, 60 at 1.
        best(Feed.loaded(fine.replace("vrefs 3", "vrefs 5").replace("slope 200", "slope 0")), 0, 9, 1, 45);
    }

    private static void bitRange(LinkTraining x, int beyond) {
        Sentence.refuses("scoreOf(" + beyond + ")", x, ARGUMENT, y -> y.scoreOf(beyond));
        Sentence.refuses("sharedVref(" + beyond + ")", x, ARGUMENT, y -> y.sharedVref(beyond));
        Sentence.refuses("bestTap(0, " + beyond + ")", x, ARGUMENT, y -> y.bestTap(0, beyond));
        Sentence.refuses("bestVref(0, " + beyond + ")", x, ARGUMENT, y -> y.bestVref(0, beyond));
    }

    private static void bits() {
        Sentence.of("The link can be trained to a bit b (from -100 to 100) if each lane has a good setting for b; the score "
                + "of b is then the smallest of the scores of the best settings.");
        LinkTraining x = Feed.loaded(Links.TWO);
        for (int bit : new int[] {-100, -1, 2, 100}) {
            Sentence.same("scoreOf(" + bit + ")", x.scoreOf(bit), NONE);
            Sentence.same("sharedVref(" + bit + ")", x.sharedVref(bit), NONE);
        }
        Sentence.same("scoreOf(0)", x.scoreOf(0), 30);
        for (int beyond : new int[] {-101, 101, Integer.MIN_VALUE, Integer.MAX_VALUE}) {
            bitRange(x, beyond);
        }
        // The least and the greatest bit that a text and a temperature allow.
        LinkTraining far = Feed.loaded("link step 50 taps 128 vrefs 1;rate r period 100 jitter 0;"
                + "lane l skew 4000 width 1000 vref 0 slope 0 drift 50;pattern p 0;");
        far.setTemperature(1250);
        Sentence.same("train", far.train(), 0);
        Sentence.same("the least bit", far.trainedBit(), -46);
        far = Feed.loaded("link step 50 taps 128 vrefs 1;rate r period 100 jitter 0;"
                + "lane l skew 0 width 1000 vref 0 slope 0 drift minus 50;lane m skew 0 width 1000 vref 0 slope 0 drift "
                + "minus 50;pattern p 0;");
        far.setTemperature(1250);
        Sentence.same("trainableBits", far.trainableBits(), 65);
        Sentence.same("scoreOf(70)", far.scoreOf(70), 0);
        Sentence.same("scoreOf(71)", far.scoreOf(71), NONE);
        Sentence.same("scoreOf(6)", far.scoreOf(6), 0);
        Sentence.same("scoreOf(5)", far.scoreOf(5), NONE);
        int[][] scoreOfWidth = {{1000, 40}, {800, 40}, {600, 30}, {400, 20}, {200, 10}, {199, 0}, {1, 0}};
        for (int weak = 0; weak < 8; weak++) {
            StringBuilder text = new StringBuilder("link step 10 taps 32 vrefs 1;rate r period 100 jitter 0;pattern p 0;");
            for (int i = 0; i < 8; i++) {
                text.append("lane ").append((char) ('a' + i)).append(" skew 50 width ").append(i == weak ? 200 : 1000)
                        .append(" vref 0 slope 0;");
            }
            Sentence.same("with lane " + weak + " the weakest", Feed.loaded(text.toString()).scoreOf(1), 10);
        }
        for (int[] due : scoreOfWidth) {
            Sentence.same("of one lane, width " + due[0], link(32, 1, "period 100 jitter 0", "width " + due[0]
                    + " vref 0 slope 0").scoreOf(0), due[1]);
        }

        Sentence.of("trainableBits: the number of bits, -100 to 100, to which the link can be trained.");
        Sentence.same("none", link(32, 1, "period 100 jitter 51", "width 1000 vref 0 slope 0").trainableBits(), 0);
        Sentence.same("all of 32 taps", link(32, 1, "period 100 jitter 0", "width 1000 vref 0 slope 0")
                .trainableBits(), 4);
        Sentence.same("the last one at its first tap alone", link(31, 1, "period 100 jitter 0",
                "width 1000 vref 0 slope 0").trainableBits(), 4);
        Sentence.same("without it", link(30, 1, "period 100 jitter 0", "width 1000 vref 0 slope 0").trainableBits(), 3);
    }

    private static void training() {
        Sentence.of("Training chooses the bit with the greatest score, of several the smallest one, and gives each lane its "
                + "best setting for this bit; the link is then trained, and this is the trained bit.");
        LinkTraining equal = link(30, 1, "period 100 jitter 0", "width 1000 vref 0 slope 0");
        Sentence.same("three equal bits", equal.train(), 40);
        Sentence.same("the smallest", equal.trainedBit(), 0);
        // Taps 0 to 3 have bit -1, 4 to 13 bit 0, 14 to 23 bit 1, 24 and 25 bit 2.
        String later = "link step 10 taps 26 vrefs 1;rate r period 100 jitter 0;lane l skew 90 width 1000 vref 0 slope 0;"
                + "pattern p 0;";
        LinkTraining inner = Feed.loaded(later);
        Sentence.same("the greatest is neither the first nor the last", inner.train(), 40);
        Sentence.same("its bit", inner.trainedBit(), 0);
        Sentence.same("its tap", inner.setting(0, 0), 8);
        LinkTraining last = Feed.loaded(later.replace("taps 26", "taps 7").replace("skew 90", "skew 80"));
        // Taps 0 to 2 have bit -1, 3 to 6 bit 0: 10 and 10.
        Sentence.same("equal ones in part", last.train(), 10);
        Sentence.same("the smaller", last.trainedBit(), -1);
        LinkTraining greater = Feed.loaded(later.replace("taps 26", "taps 8").replace("skew 90", "skew 80"));
        Sentence.same("20 against 10", greater.train(), 20);
        Sentence.same("the greater", greater.trainedBit(), 0);
        LinkTraining zero = link(32, 1, "period 100 jitter 50", "width 1000 vref 0 slope 0");
        Sentence.same("a score of 0 does not fail", zero.train(), 0);
        Sentence.same("isTrained", zero.isTrained(), true);

        Sentence.of("Training fails if there is no such bit. (If training fails, only the log changes.)");
        LinkTraining shut = link(32, 1, "period 100 jitter 51", "width 1000 vref 0 slope 0");
        Sentence.same("train", shut.train(), NONE);
        Sentence.same("isTrained", shut.isTrained(), false);
        Sentence.same("logSize", shut.logSize(), 1);
        Sentence.same("can be undone", shut.undo(), 1);
        Sentence.same("logSize", shut.logSize(), 0);
        // Each lane has bits, but none in common: lane m is 32 taps later than l.
        LinkTraining none = Feed.loaded("link step 10 taps 30 vrefs 1;rate r period 100 jitter 0;"
                + "lane l skew 50 width 1000 vref 0 slope 0;lane m skew 350 width 1000 vref 0 slope 0;pattern p 0;");
        Sentence.same("no common bit", none.train(), NONE);
        Sentence.same("one common bit", Feed.loaded("link step 10 taps 31 vrefs 1;rate r period 100 jitter 0;"
                + "lane l skew 50 width 1000 vref 0 slope 0;lane m skew 350 width 1000 vref 0 slope 0;pattern p 0;")
                .train(), 0);
    }

    private static void log() {
        Sentence.of("Each attempt is recorded in the log with its rate and its score (-1 if it failed); the latest 30 are "
                + "kept, numbered from 0 for the oldest one.");
        // Score 40 at rate a, none at rate b.
        LinkTraining x = Feed.loaded("link step 10 taps 32 vrefs 1;rate a period 100 jitter 0;rate b period 100 jitter 51;"
                + "lane l skew 50 width 1000 vref 0 slope 0;pattern p 0;fallback b to a;");
        Sentence.refuses("logEntry(0, 0) of none", x, INDEX, y -> y.logEntry(0, 0));
        x.setRate(1);
        x.train();
        Sentence.same("the first", x.logEntry(0, 0) + " " + x.logEntry(0, 1), "1 -1");
        x.setRate(0);
        for (int size = 2; size <= 30; size++) {
            x.train();
            int n = size;
            Sentence.same("logSize", x.logSize(), size);
            Sentence.same("the latest of " + size, x.logEntry(size - 1, 0) + " " + x.logEntry(size - 1, 1), "0 40");
            Sentence.same("the oldest of " + size, x.logEntry(0, 0) + " " + x.logEntry(0, 1), "1 -1");
            Sentence.refuses("logEntry(" + size + ", 0)", x, INDEX, y -> y.logEntry(n, 0));
            Sentence.refuses("logEntry(-1, 0)", x, INDEX, y -> y.logEntry(-1, 0));
        }
        x.train();
        Sentence.same("logSize of 31", x.logSize(), 30);
        Sentence.same("the oldest of 31", x.logEntry(0, 0) + " " + x.logEntry(0, 1), "0 40");
        x.setRate(1);
        Sentence.same("two attempts at once", x.trainWithFallback(), 0);
        Sentence.same("logSize of 33", x.logSize(), 30);
        Sentence.same("the last but one", x.logEntry(28, 0) + " " + x.logEntry(28, 1), "1 -1");
        Sentence.same("the last", x.logEntry(29, 0) + " " + x.logEntry(29, 1), "0 40");
        Sentence.refuses("logEntry(30, 0)", x, INDEX, y -> y.logEntry(30, 0));
        x.undo();
        x.undo();
        x.undo();
        Sentence.same("the first is back", x.logEntry(0, 0) + " " + x.logEntry(0, 1), "1 -1");
        Sentence.same("logSize of 30", x.logSize(), 30);
    }

    /** Rates a to d of these jitters, a lane that none of more than 50 can train, and a chain of fallbacks. */
    private static LinkTraining chain(String fallbacks, int... jitters) {
        StringBuilder text = new StringBuilder("link step 10 taps 32 vrefs 1;lane l skew 50 width 1000 vref 0 slope 0;"
                + "pattern p 0;");
        for (int i = 0; i < jitters.length; i++) {
            text.append("rate ").append((char) ('a' + i)).append(" period 100 jitter ").append(jitters[i]).append(';');
        }
        for (int i = 0; i < fallbacks.length(); i += 2) {
            text.append("fallback ").append(fallbacks.charAt(i)).append(" to ").append(fallbacks.charAt(i + 1)).append(';');
        }
        return Feed.loaded(text.toString());
    }

    private static void falls(LinkTraining x, int from, int due, int attempts) {
        Sentence.same("fallbackFrom(" + from + ")", x.fallbackFrom(from), due);
        x.setRate(from);
        Sentence.same("trainWithFallback from " + from, x.trainWithFallback(), due);
        Sentence.same("its attempts", x.logSize(), attempts);
        Sentence.same("the rate afterwards", x.rate(), due == NONE ? from : due);
        Sentence.same("isTrained", x.isTrained(), due != NONE);
        Sentence.same("the last attempt's score", x.logEntry(attempts - 1, 1) >= 0, due != NONE);
        x.undo();
        Sentence.same("the rate after undo", x.rate(), from);
        Sentence.same("logSize after undo", x.logSize(), 0);
    }

    private static void fallbacks() {
        Sentence.of("if this fails, at its fallback, and so on, until training does not fail, a rate has no fallback, or its "
                + "fallback has already been tried.");
        falls(chain("", 0), 0, 0, 1);
        falls(chain("", 51), 0, NONE, 1);
        falls(chain("aa", 51), 0, NONE, 1);
        falls(chain("aa", 50), 0, 0, 1);
        falls(chain("ab", 51, 50), 0, 1, 2);
        falls(chain("ba", 51, 50), 0, NONE, 1);
        falls(chain("abba", 51, 51), 0, NONE, 2);
        falls(chain("abba", 51, 51), 1, NONE, 2);
        falls(chain("abbb", 51, 51), 0, NONE, 2);
        falls(chain("baab", 50, 51), 1, 0, 2);
        falls(chain("abbccdda", 51, 51, 51, 50), 0, 3, 4);
        falls(chain("abbccdda", 51, 51, 51, 51), 0, NONE, 4);
        falls(chain("abbccddb", 51, 51, 51, 51), 0, NONE, 4);
        falls(chain("abbccd", 51, 51, 51, 51), 0, NONE, 4);
        falls(chain("dccbbaad", 50, 51, 51, 51), 3, 0, 4);
        falls(chain("abbccdda", 51, 51, 51, 51), 2, NONE, 4);
        falls(chain("acca", 51, 50, 51), 0, NONE, 2);
        Sentence.of("fastestRate: the smallest period at which training would not fail, the lowest number among equals; NONE "
                + "if there is none.");
        String rest = "link step 10 taps 64 vrefs 1;lane l skew 500 width 1000 vref 0 slope 0;pattern p 0;";
        Sentence.same("no link", new LinkTraining().fastestRate(), NONE);
        Sentence.same("none", chain("", 51, 51, 51, 51).fastestRate(), NONE);
        Sentence.same("the lowest of four equals", chain("", 0, 10, 20, 30).fastestRate(), 0);
        Sentence.same("the lowest of two equals", chain("", 51, 10, 51, 0).fastestRate(), 1);
        Sentence.same("the last one", Feed.loaded(rest + "rate a period 103 jitter 0;rate b period 102 jitter 0;"
                + "rate c period 101 jitter 0;rate d period 100 jitter 0;").fastestRate(), 3);
        Sentence.same("the first one", Feed.loaded(rest + "rate a period 1999 jitter 0;rate b period 2000 jitter 0;")
                .fastestRate(), 0);
        Sentence.same("a slower one, for the fastest fails", Feed.loaded(rest + "rate a period 300 jitter 0;"
                + "rate b period 100 jitter 51;rate c period 200 jitter 0;rate d period 200 jitter 0;").fastestRate(), 2);
    }

    private static void whatIf() {
        Sentence.of("greatestMargin: the greatest required time margin, 0 to 500 ps, with which training would not fail; "
                + "NONE if it fails even with 0.");
        Sentence.same("fails", link(32, 1, "period 100 jitter 51", "width 1000 vref 0 slope 0").greatestMargin(), NONE);
        Sentence.same("0", link(32, 1, "period 100 jitter 50", "width 1000 vref 0 slope 0").greatestMargin(), 0);
        Sentence.same("40", link(32, 1, "period 100 jitter 0", "width 1000 vref 0 slope 0").greatestMargin(), 40);
        String wide = "vrefs 1;rate r period 2000 jitter 0;lane l skew 1000 width 1000 vref 0 slope 0;pattern p 0;";
        Sentence.same("496", Feed.loaded("link step 8 taps 125 " + wide).greatestMargin(), 496);
        Sentence.same("500", Feed.loaded("link step 50 taps 21 " + wide).greatestMargin(), 500);
        Sentence.same("500 of 504", Feed.loaded("link step 8 taps 127 " + wide).greatestMargin(), 500);
        Sentence.same("500 of 950", Feed.loaded("link step 50 taps 128 " + wide).greatestMargin(), 500);
        Sentence.same("whatever is required", needing(5, 500, 2).greatestMargin(), 30);
        Sentence.same("but the voltages", needing(5, 0, 3).greatestMargin(), NONE);

        Sentence.of("scoreAt: the score that training at this rate would give; NONE if it would fail.");
        LinkTraining rates = chain("ab", 51, 50, 0, 35);
        int[] scores = {NONE, 0, 40, 10};
        for (int rate = 0; rate < 4; rate++) {
            Sentence.same("scoreAt(" + rate + ")", rates.scoreAt(rate), scores[rate]);
            rates.setRate(rate);
            Sentence.same("train at " + rate, rates.train(), scores[rate]);
            Sentence.same("scoreAt(0) from " + rate, rates.scoreAt(0), NONE);
        }
        Sentence.refuses("scoreAt(4)", rates, INDEX, y -> y.scoreAt(4));
        Sentence.refuses("scoreAt(-1)", rates, INDEX, y -> y.scoreAt(-1));
        Sentence.same("the log has the trainings alone", rates.logSize(), 4);

        Sentence.of("scoreWithout: the score that training would give if this pattern were not tested; NONE if it would "
                + "fail.");
        LinkTraining two = Feed.loaded("link step 10 taps 32 vrefs 1;rate r period 100 jitter 45;"
                + "lane l skew 50 width 1000 vref 0 slope 0;stress run 6 change 0;pattern p 0;pattern q 00;pattern s 01;");
        Sentence.same("with all", two.train(), NONE);
        Sentence.same("without the worst", two.scoreWithout(1), 0);
        Sentence.same("without the first", two.scoreWithout(0), NONE);
        Sentence.same("without the last", two.scoreWithout(2), NONE);
        Sentence.refuses("scoreWithout(3)", two, INDEX, y -> y.scoreWithout(3));
        Sentence.refuses("scoreWithout(-1)", two, INDEX, y -> y.scoreWithout(-1));
        Sentence.same("without the only one", Feed.loaded("link step 10 taps 30 vrefs 1;rate r period 100 jitter 200;"
                + "lane l skew 50 width 1 vref 0 slope 200;pattern p 0;").scoreWithout(0), 40);

        Sentence.of("sharedVref: the reference voltage with which each lane has a good setting for this bit and the smallest "
                + "score is greatest, the lowest one among equals; NONE if there is none.");
        String lanes = "link step 10 taps 32 vrefs 5;rate r period 100 jitter 0;pattern p 0;";
        String wideLane = "lane # skew 50 width 400 vref @ slope 10;";
        LinkTraining apart = Feed.loaded(lanes + wideLane.replace("#", "l").replace("@", "0")
                + wideLane.replace("#", "m").replace("@", "4"));
        // Lane l works at the voltages 0 to 2, m at 2 to 4: only 2 is common.
        Sentence.same("one in common", apart.sharedVref(0), 2);
        Sentence.same("of no bit", apart.sharedVref(4), NONE);
        LinkTraining never = Feed.loaded(lanes + wideLane.replace("#", "l").replace("@", "0").replace("400", "200")
                + wideLane.replace("#", "m").replace("@", "4"));
        Sentence.same("none in common", never.sharedVref(0), NONE);
        Sentence.same("but the link can be trained", never.train() >= 0, true);
        LinkTraining last = Feed.loaded(lanes + wideLane.replace("#", "l").replace("@", "4").replace("slope 10", "slope 200"));
        Sentence.same("the last one alone", last.sharedVref(0), 4);
        LinkTraining first = Feed.loaded(lanes + wideLane.replace("#", "l").replace("@", "0").replace("slope 10", "slope 200"));
        Sentence.same("the first one alone", first.sharedVref(0), 0);
        LinkTraining equal = Feed.loaded(lanes + wideLane.replace("#", "l").replace("@", "2").replace("slope 10", "slope 0"));
        // Halves of 20 at all voltages: scores 20 by the time, 20 by the voltages 0 and 4 too.
        Sentence.same("five equals", equal.sharedVref(0), 0);
        LinkTraining by = Feed.loaded(lanes + wideLane.replace("#", "l").replace("@", "2").replace("slope 10", "slope 0")
                + "margin time 20 volts 1;");
        Sentence.same("only with a good setting", by.sharedVref(0), 1);
    }

    public static void main(String[] args) {
        margins();
        scores();
        bestSettings();
        bits();
        training();
        log();
        fallbacks();
        whatIf();
        Sentence.end();
    }
}
