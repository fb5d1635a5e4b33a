/** Every promise at ordinary inputs and at the edges that the document names; the answers are worked out by hand. */
public final class PromisesTest {
    private static final int NONE = LinkTraining.NONE;

    private PromisesTest() { }

    private static void newObject() {
        LinkTraining x = new LinkTraining();
        Check.same(1, "errorCode", x.errorCode(), 0);
        Check.same(1, "errorPosition", x.errorPosition(), NONE);
        Check.same(1, "rateCount", x.rateCount(), 0);
        Check.same(1, "laneCount", x.laneCount(), 0);
        Check.same(1, "patternCount", x.patternCount(), 0);
        Check.same(1, "rate", x.rate(), NONE);
        Check.same(1, "temperature", x.temperature(), 0);
        Check.same(1, "worstPattern", x.worstPattern(), NONE);
        Check.same(1, "fastestRate", x.fastestRate(), NONE);
        Check.same(1, "isTrained", x.isTrained(), false);
        Check.same(1, "logSize", x.logSize(), 0);
        Check.refuses(1, "truncate(1)", x, IllegalArgumentException.class, y -> cut(y, 1));
        Check.refuses(1, "outputByte(0)", x, IndexOutOfBoundsException.class, y -> y.outputByte(0));
        Check.refuses(1, "undo", x, IllegalStateException.class, LinkTraining::undo);
        x.truncate(0);
    }

    private static Object cut(LinkTraining x, int length) {
        x.truncate(length);
        return "cut";
    }

    private static void buffer() {
        LinkTraining x = new LinkTraining();
        for (int i = 1; i <= 70; i++) {
            Check.same(2, "append " + i, x.append(i, i, i, i, i), 20 * i);
        }
        Check.refuses(2, "append 71", x, IllegalStateException.class, y -> y.append(1, 1, 1, 1, 1));
        Check.refuses(3, "truncate(1401)", x, IllegalArgumentException.class, y -> cut(y, 1401));
        x.truncate(1400);
        Check.refuses(3, "truncate(-1)", x, IllegalArgumentException.class, y -> cut(y, -1));
        x.truncate(1381);
        Check.refuses(2, "append at 1381", x, IllegalStateException.class, y -> y.append(1, 1, 1, 1, 1));
        x.truncate(1380);
        Check.same(2, "append at 1380", x.append(1, 1, 1, 1, 1), 1400);
        x.truncate(0);
        Check.same(3, "append after truncate(0)", x.append(1, 1, 1, 1, 1), 20);
        Check.refuses(3, "truncate(21)", x, IllegalArgumentException.class, y -> cut(y, 21));
    }

    private static void byteOrder() {
        LinkTraining x = Feed.loaded("link step 1 taps 4 vrefs 1;rate abcdef period 100 jitter 0;"
                + "lane w skew 0 width 1 vref 0 slope 0;pattern p 1;");
        x.append(0x61626364, 0x65660000, 0, 0, 0);
        x.truncate(6);
        Check.same(2, "the bytes in order", x.find(0), 0);
        x.append(0x64636261, 0x66650000, 0, 0, 0);
        x.truncate(6);
        Check.same(2, "the bytes in another order", x.find(0), NONE);
        x.append(0xFF626364, 0, 0, 0, 0);
        x.truncate(1);
        x.append(0x20202020, 0, 0, 0, 0);
        Check.same(2, "a byte of 255", x.load(), LinkTraining.PARSE_ERROR);
        Check.same(6, "its position", x.errorPosition(), 0);
    }

    private static void loading() {
        LinkTraining x = Feed.loaded(Links.TWO);
        Check.refuses(4, "truncate(1) after load", x, IllegalArgumentException.class, y -> cut(y, 1));
        Check.same(4, "rate", x.rate(), 0);
        x.setTemperature(7);
        x.setRate(1);
        x.train();
        Check.same(4, "an empty text", x.load(), LinkTraining.PARSE_ERROR);
        Check.same(5, "errorCode", x.errorCode(), 1);
        Check.same(6, "errorPosition", x.errorPosition(), 0);
        Check.same(4, "isTrained after an error", x.isTrained(), true);
        Check.same(4, "temperature after an error", x.temperature(), 7);
        Check.same(4, "rate after an error", x.rate(), 1);
        Check.same(4, "logSize after an error", x.logSize(), 1);
        Check.same(4, "load", Feed.load(x, Links.OPEN), 1);
        Check.same(5, "errorCode", x.errorCode(), 0);
        Check.same(6, "errorPosition", x.errorPosition(), NONE);
        Check.same(4, "isTrained after load", x.isTrained(), false);
        Check.same(4, "temperature after load", x.temperature(), 0);
        Check.same(4, "rate after load", x.rate(), 0);
        Check.same(4, "logSize after load", x.logSize(), 0);
        Check.same(8, "rateCount", x.rateCount(), 1);
        Check.same(9, "laneCount", x.laneCount(), 1);
        Check.same(10, "patternCount", x.patternCount(), 1);
        Feed.text(x, "link |");
        Check.same(4, "an error", x.load(), LinkTraining.PARSE_ERROR);
        Check.refuses(4, "truncate(1) after an error", x, IllegalArgumentException.class, y -> cut(y, 1));
        Check.same(9, "laneCount", x.laneCount(), 1);
        Check.same(10, "patternCount", x.patternCount(), 1);
    }

    private static int find(LinkTraining x, String name, int kind) {
        Feed.text(x, name);
        return x.find(kind);
    }

    private static void finding() {
        LinkTraining x = Feed.loaded(Links.TWO);
        Check.same(7, "f", find(x, "f", 0), 0);
        Check.same(7, "s", find(x, "s", 0), 1);
        Check.same(7, "b", find(x, "b", 1), 1);
        Check.same(7, "p", find(x, "p", 2), 0);
        Check.same(7, "f as a lane", find(x, "f", 1), NONE);
        Check.same(7, "a as a pattern", find(x, "a", 2), NONE);
        Check.same(7, "a with a space", find(x, "a ", 1), NONE);
        Check.same(7, "ab", find(x, "ab", 1), NONE);
        Check.same(7, "nothing", find(x, "", 1), NONE);
        Feed.text(x, "b");
        Check.refuses(7, "find(3)", x, IllegalArgumentException.class, y -> y.find(3));
        Check.refuses(7, "find(-1)", x, IllegalArgumentException.class, y -> y.find(-1));
        Check.same(7, "the buffer stayed", x.find(1), 1);
        Check.refuses(7, "truncate(1)", x, IllegalArgumentException.class, y -> cut(y, 1));
    }

    private static void present() {
        LinkTraining x = Feed.loaded(Links.TWO);
        Check.same(8, "rateCount", x.rateCount(), 2);
        Check.same(9, "laneCount", x.laneCount(), 2);
        Check.same(10, "patternCount", x.patternCount(), 1);
        Check.same(45, "setRate(1)", x.setRate(1), 0);
        Check.same(11, "rate", x.rate(), 1);
        Check.same(45, "setRate(0)", x.setRate(0), 1);
        Check.same(46, "setTemperature(-400)", x.setTemperature(-400), 0);
        Check.same(12, "temperature", x.temperature(), -400);
        Check.same(46, "setTemperature(1250)", x.setTemperature(1250), -400);
        Check.same(12, "temperature", x.temperature(), 1250);
        LinkTraining empty = new LinkTraining();
        Check.same(46, "setTemperature(3) without a link", empty.setTemperature(3), 0);
        Check.same(12, "temperature without a link", empty.temperature(), 3);
    }

    private static void stress() {
        String[] bits = {"01", "1001", "0000", "1101111011111111", "110", "1"};
        int[] longest = {1, 2, 4, 10, 2, 1};
        int[] changes = {2, 2, 0, 4, 2, 0};
        LinkTraining x = Links.ofPatterns("stress run 5 change 2;", bits);
        LinkTraining plain = Links.ofPatterns("", bits);
        for (int i = 0; i < bits.length; i++) {
            Check.same(13, bits[i], x.longestRun(i), longest[i]);
            Check.same(14, bits[i], x.changes(i), changes[i]);
            Check.same(15, bits[i], x.penalty(i), 5 * (longest[i] - 1) + 2 * changes[i]);
            Check.same(15, bits[i] + " without stress", plain.penalty(i), 0);
        }
        Check.same(13, "0000000000000000", Links.ofPatterns("", "0000000000000000").longestRun(0), 16);
        Check.same(13, "0111111111111111", Links.ofPatterns("", "0111111111111111").longestRun(0), 15);
        Check.same(14, "0101010101010101", Links.ofPatterns("", "0101010101010101").changes(0), 16);
        Check.same(16, "the worst", x.worstPattern(), 3);
        Check.same(16, "among equals", plain.worstPattern(), 0);
        Check.same(16, "by changes", Links.ofPatterns("stress run 0 change 1;", "11", "01", "10").worstPattern(), 1);
    }

    private static LinkTraining oneLane(String rate, String lane) {
        return Feed.loaded("link step 1 taps 128 vrefs 9;rate r " + rate + ";lane l " + lane + ";pattern p 0;");
    }

    private static void offsets() {
        LinkTraining x = Feed.loaded(Links.TWO);
        Check.same(17, "offset(0, 0)", x.offset(0, 0), -50);
        Check.same(17, "offset(1, 31)", x.offset(1, 31), 160);
        x.setTemperature(1250);
        Check.same(17, "without a drift at 1250", x.offset(1, 31), 160);
        LinkTraining cold = oneLane("period 100 jitter 0", "skew 4000 width 1 vref 0 slope 0 drift 10");
        cold.setTemperature(-399);
        Check.same(17, "drift 10 at -399", cold.offset(0, 1), 1 - (4000 - 39));
        cold.setTemperature(1250);
        Check.same(17, "drift 10 at 1250", cold.offset(0, 127), 127 - 4125);
        cold.setTemperature(9);
        Check.same(17, "drift 10 at 9", cold.offset(0, 0), -4000);
        LinkTraining minus = oneLane("period 100 jitter 0", "skew 100 width 1 vref 0 slope 0 drift minus 10");
        minus.setTemperature(925);
        Check.same(17, "drift -10 at 925", minus.offset(0, 0), -8);
    }

    private static void bits() {
        LinkTraining even = oneLane("period 100 jitter 0", "skew 51 width 1000 vref 0 slope 0");
        int[][] due = {{0, -1, 49}, {1, 0, -50}, {51, 0, 0}, {100, 0, 49}, {101, 1, -50}};
        for (int[] d : due) {
            Check.same(18, "bit at tap " + d[0], even.bitAt(0, d[0]), d[1]);
            Check.same(19, "phase at tap " + d[0], even.phase(0, d[0]), d[2]);
        }
        LinkTraining odd = oneLane("period 101 jitter 0", "skew 51 width 1000 vref 0 slope 0");
        int[][] dueOdd = {{0, -1, 50}, {1, 0, -50}, {51, 0, 0}, {101, 0, 50}, {102, 1, -50}};
        for (int[] d : dueOdd) {
            Check.same(18, "odd: bit at tap " + d[0], odd.bitAt(0, d[0]), d[1]);
            Check.same(19, "odd: phase at tap " + d[0], odd.phase(0, d[0]), d[2]);
        }
        LinkTraining far = oneLane("period 100 jitter 0", "skew 4000 width 1 vref 0 slope 0 drift 50");
        far.setTemperature(1250);
        Check.same(18, "a far bit", far.bitAt(0, 0), -46);
        Check.same(19, "a far phase", far.phase(0, 0), -25);
    }

    private static void halves() {
        LinkTraining x = Feed.loaded("link step 1 taps 128 vrefs 9;rate r period 101 jitter 3;rate s period 2000 jitter 0;"
                + "lane l skew 64 width 777 vref 4 slope 7;pattern p 01;pattern q 0011;stress run 2 change 1;");
        Check.same(20, "half(0, 4, 0)", x.half(0, 4, 0), 39 - 3 - 2);
        Check.same(20, "half(0, 4, 1)", x.half(0, 4, 1), 39 - 3 - 4);
        Check.same(20, "half(0, 0, 0)", x.half(0, 0, 0), 34 - 28);
        Check.same(20, "half(0, 8, 1)", x.half(0, 8, 1), 32 - 28);
        Check.same(21, "|phase| is half", x.test(0, 64 - 34, 4, 0), true);
        Check.same(21, "|phase| is half, above", x.test(0, 64 + 34, 4, 0), true);
        Check.same(21, "|phase| is half + 1", x.test(0, 64 - 35, 4, 0), false);
        Check.same(21, "|phase| is half + 1, above", x.test(0, 64 + 35, 4, 0), false);
        Check.same(22, "passes both", x.works(0, 64 + 32, 4), true);
        Check.same(22, "passes one", x.works(0, 64 + 33, 4), false);
        Check.same(23, "passes both", x.firstFailure(0, 64 + 32, 4), NONE);
        Check.same(23, "passes one", x.firstFailure(0, 64 + 33, 4), 1);
        Check.same(23, "passes none", x.firstFailure(0, 64 + 35, 4), 0);
        x.setRate(1);
        Check.same(20, "half(0, 4, 0) at the other rate", x.half(0, 4, 0), 777 - 2);
        LinkTraining none = Feed.loaded("link step 1 taps 128 vrefs 9;rate r period 100 jitter 200;"
                + "lane l skew 64 width 1 vref 8 slope 200;pattern p 1;");
        Check.same(20, "a negative half", none.half(0, 0, 0), -1800);
        Check.same(22, "works at phase 0", none.works(0, 64, 8), false);
    }

    private static void eyes() {
        LinkTraining x = Feed.loaded(Links.TWO);
        Check.same(24, "eyeCount(0, 1)", x.eyeCount(0, 1), 3);
        int[][] due = {{2, 8, 0}, {12, 18, 1}, {22, 28, 2}};
        int[][] dueLate = {{2, 8, -1}, {12, 18, 0}, {22, 28, 1}};
        for (int i = 0; i < 3; i++) {
            for (int what = 0; what < 3; what++) {
                Check.same(25, "lane 0, eye " + i, x.eye(0, 1, i, what), due[i][what]);
                Check.same(25, "lane 1, eye " + i, x.eye(1, 1, i, what), dueLate[i][what]);
            }
        }
        Check.same(25, "eye(0, 0, 0, 0)", x.eye(0, 0, 0, 0), 3);
        Check.refuses(25, "eye(0, 1, 3, 0)", x, java.util.NoSuchElementException.class, y -> y.eye(0, 1, 3, 0));
        Check.refuses(25, "eye(0, 1, -1, 0)", x, java.util.NoSuchElementException.class, y -> y.eye(0, 1, -1, 0));
        LinkTraining open = Feed.loaded(Links.OPEN);
        Check.same(24, "eyes that touch", open.eyeCount(0, 0), 4);
        Check.same(25, "the second's first tap", open.eye(0, 0, 1, 0), 10);
        Check.same(25, "the second's last tap", open.eye(0, 0, 1, 1), 19);
        Check.same(25, "the last one's last tap", open.eye(0, 0, 3, 1), 31);
        LinkTraining shut = Feed.loaded(Links.DRIFT);
        Check.same(24, "no eye", shut.eyeCount(0, 0), 0);
        Check.refuses(25, "no eye", shut, java.util.NoSuchElementException.class, y -> y.eye(0, 0, 0, 0));
    }

    private static void areas() {
        LinkTraining x = Feed.loaded(Links.TWO);
        Check.same(26, "eyeArea(0, 0)", x.eyeArea(0, 0), 7 + 5 + 5);
        Check.same(26, "eyeArea(0, -1)", x.eyeArea(0, -1), 0);
        Check.same(26, "eyeArea(0, 100)", x.eyeArea(0, 100), 0);
        Check.same(26, "eyeArea(0, -100)", x.eyeArea(0, -100), 0);
        Check.same(27, "eyeFill(0, 0)", x.eyeFill(0, 0), 17 / 30.0);
        Check.same(27, "eyeFill(0, 3)", x.eyeFill(0, 3), 0.0);
        Check.same(27, "eyeFill(0, 9)", x.eyeFill(0, 9), 0.0);
        Check.same(27, "eyeFill where all work", Feed.loaded(Links.OPEN).eyeFill(0, 3), 1.0);
        Check.same(28, "eyeHeight(0, 5)", x.eyeHeight(0, 5), 3);
        Check.same(28, "eyeHeight(0, 2)", x.eyeHeight(0, 2), 1);
        Check.same(28, "eyeHeight(0, 0)", x.eyeHeight(0, 0), 0);
    }

    private static void edges() {
        LinkTraining x = Feed.loaded(Links.TWO);
        Check.same(29, "firstEdge(0, 5, 1)", x.firstEdge(0, 5, 1), 2);
        Check.same(30, "lastEdge(0, 5, 1)", x.lastEdge(0, 5, 1), 8);
        Check.same(31, "edgeTests(0, 5, 1)", x.edgeTests(0, 5, 1), 5);
        Check.same(29, "firstEdge(0, 2, 1)", x.firstEdge(0, 2, 1), 2);
        Check.same(30, "lastEdge(0, 28, 1)", x.lastEdge(0, 28, 1), 28);
        LinkTraining open = Feed.loaded(Links.OPEN);
        Check.same(29, "past the edge", open.firstEdge(0, 12, 1), 8);
        Check.same(30, "past the edge", open.lastEdge(0, 18, 1), 22);
        Check.same(29, "tap 0", open.firstEdge(0, 0, 1), 0);
        Check.same(29, "down to tap 0", open.firstEdge(0, 3, 1), 0);
        Check.same(30, "the last tap", open.lastEdge(0, 31, 1), 31);
        Check.same(30, "up to the last tap", open.lastEdge(0, 29, 1), 31);
        LinkTraining two = Feed.loaded("link step 10 taps 32 vrefs 1;rate r period 100 jitter 5;"
                + "lane l skew 50 width 800 vref 0 slope 0;pattern p 0;pattern q 01;stress run 0 change 5;");
        // Halves 35 and 25. Downwards from 5: 2 (passes p only: 2 tests), 3 (works: 2). Upwards: 7 (2), 8 (2).
        Check.same(31, "with two patterns", two.edgeTests(0, 5, 0), 8);
        Check.same(29, "with two patterns", two.firstEdge(0, 5, 0), 3);
        Check.same(30, "with two patterns", two.lastEdge(0, 5, 0), 7);
        LinkTraining turned = Feed.loaded("link step 10 taps 32 vrefs 1;rate r period 100 jitter 5;"
                + "lane l skew 50 width 800 vref 0 slope 0;pattern q 01;pattern p 0;stress run 0 change 5;");
        // The taps that fail now fail the first pattern: 2 and 8 take one test each.
        Check.same(31, "with the harder pattern first", turned.edgeTests(0, 5, 0), 6);
        LinkTraining fine = oneLane("period 100 jitter 0", "skew 51 width 1000 vref 0 slope 0");
        Check.same(29, "with n = 50", fine.firstEdge(0, 100, 0), 51);
        Check.same(30, "with n = 50", fine.lastEdge(0, 20, 0), 69);
        LinkTraining coarse = Feed.loaded("link step 50 taps 8 vrefs 1;rate r period 120 jitter 0;"
                + "lane l skew 0 width 1000 vref 0 slope 0;pattern p 0;");
        Check.same(29, "with n = 1", coarse.firstEdge(0, 5, 0), 5);
        Check.same(30, "with n = 1", coarse.lastEdge(0, 5, 0), 5);
        Check.same(31, "with n = 1", coarse.edgeTests(0, 5, 0), 0);
    }

    private static void margins() {
        LinkTraining x = Feed.loaded(Links.TWO);
        int[] time = {NONE, NONE, 0, 10, 20, 30, 20, 10, 0, NONE};
        int[] score = {NONE, NONE, 0, 10, 20, 30, 20, 10, 0, NONE};
        for (int tap = 0; tap < 10; tap++) {
            Check.same(32, "timeMargin(0, " + tap + ", 1)", x.timeMargin(0, tap, 1), time[tap]);
            Check.same(34, "score(0, " + tap + ", 1)", x.score(0, tap, 1), score[tap]);
        }
        Check.same(33, "voltageMargin(0, 5, 1)", x.voltageMargin(0, 5, 1), 1);
        Check.same(33, "voltageMargin(0, 5, 0)", x.voltageMargin(0, 5, 0), 0);
        Check.same(33, "voltageMargin(0, 5, 2)", x.voltageMargin(0, 5, 2), 0);
        Check.same(33, "voltageMargin(0, 2, 1)", x.voltageMargin(0, 2, 1), 0);
        Check.same(33, "voltageMargin(0, 2, 0)", x.voltageMargin(0, 2, 0), NONE);
        LinkTraining open = Feed.loaded(Links.OPEN);
        Check.same(32, "within the bit", open.timeMargin(0, 10, 1), 0);
        Check.same(32, "within the bit", open.timeMargin(0, 14, 1), 40);
        Check.same(32, "up to the last tap", open.timeMargin(0, 30, 1), 0);
        Check.same(34, "by the voltages", open.score(0, 14, 0), 33);
        Check.same(34, "by the time", open.score(0, 14, 1), 40);
        LinkTraining wide = Feed.loaded("link step 50 taps 64 vrefs 7;rate r period 1999 jitter 0;"
                + "lane l skew 1000 width 1000 vref 0 slope 200;pattern p 0;");
        // Half 999 - 200 * v; the eye at v = 0 is taps 1 to 39.
        Check.same(32, "in a wide eye", wide.timeMargin(0, 20, 0), 950);
        Check.same(33, "at the lowest voltage", wide.voltageMargin(0, 20, 0), 0);
        Check.same(33, "between", wide.voltageMargin(0, 20, 2), 2);
        Check.same(34, "100 / 7 rounded down", wide.score(0, 20, 0), 14);
        // At v = 2 the half is 599 and the eye is taps 9 to 31: 100 * 550 / 1999 is 27, 100 * 5 / 7 is 71.
        Check.same(34, "100 * 550 / 1999 rounded down", wide.score(0, 20, 2), 27);
        String seven = "link step 10 taps 32 vrefs 7;rate f period 100 jitter 0;pattern p 01;"
                + "lane a skew 50 width 400 vref 1 slope 10;";
        LinkTraining low = Feed.loaded(seven);
        // Half 20 - 10 * |v - 1|: at phase 0 it works at the voltages 0 to 3.
        Check.same(33, "no voltage above", low.voltageMargin(0, 5, 2), 1);
        Check.same(33, "no voltage below 0", low.voltageMargin(0, 5, 1), 1);
        LinkTraining high = Feed.loaded(seven.replace("vref 1", "vref 5"));
        Check.same(33, "no voltage below", high.voltageMargin(0, 5, 4), 1);
        Check.same(33, "no voltage above 6", high.voltageMargin(0, 5, 5), 1);
        LinkTraining even = Feed.loaded("link step 50 taps 64 vrefs 7;rate r period 1999 jitter 0;"
                + "lane l skew 1000 width 1000 vref 0 slope 0;pattern p 0;");
        Check.same(34, "300 / 7 rounded down", even.score(0, 20, 1), 42);
        Check.same(34, "100 / 5", Feed.loaded("link step 50 taps 64 vrefs 5;rate r period 1999 jitter 0;"
                + "lane l skew 1000 width 1000 vref 0 slope 0;pattern p 0;").score(0, 20, 4), 20);
        Check.same(34, "100 * 950 / 1910 rounded down", Feed.loaded("link step 50 taps 64 vrefs 1;"
                + "rate r period 1910 jitter 0;lane l skew 1000 width 1000 vref 0 slope 0;pattern p 0;")
                .score(0, 20, 0), 49);
    }

    private static void best() {
        LinkTraining x = Feed.loaded(Links.TWO);
        Check.same(35, "bestTap(0, 0)", x.bestTap(0, 0), 5);
        Check.same(36, "bestVref(0, 0)", x.bestVref(0, 0), 1);
        Check.same(35, "bestTap(1, -1)", x.bestTap(1, -1), 5);
        Check.same(35, "bestTap(0, -1)", x.bestTap(0, -1), NONE);
        Check.same(36, "bestVref(0, -1)", x.bestVref(0, -1), NONE);
        Check.same(35, "bestTap(0, 100)", x.bestTap(0, 100), NONE);
        LinkTraining open = Feed.loaded(Links.OPEN);
        // Time margins 0 10 20 30 40 40 30 ..: of two taps with 40 the smaller one.
        Check.same(35, "two equal taps", open.bestTap(0, 1), 14);
        Check.same(36, "the widest voltage margin", open.bestVref(0, 1), 1);
        LinkTraining flat = Feed.loaded("link step 10 taps 32 vrefs 3;rate f period 100 jitter 5;"
                + "lane a skew 50 width 800 vref 1 slope 0;pattern p 01;");
        Check.same(36, "equal scores: the smallest voltage", flat.bestVref(0, 0), 0);
        Check.same(35, "equal scores", flat.bestTap(0, 0), 5);
        LinkTraining volts = Feed.loaded("link step 10 taps 32 vrefs 3;rate f period 100 jitter 5;"
                + "lane a skew 50 width 800 vref 1 slope 0;pattern p 01;margin time 30 volts 1;");
        Check.same(36, "volts 1 needed", volts.bestVref(0, 0), 1);
        Check.same(35, "time 30 needed", volts.bestTap(0, 0), 5);
        LinkTraining time = Feed.loaded("link step 10 taps 32 vrefs 3;rate f period 100 jitter 5;"
                + "lane a skew 50 width 800 vref 1 slope 0;pattern p 01;margin time 31 volts 0;");
        Check.same(35, "time 31 needed", time.bestTap(0, 0), NONE);
        LinkTraining tooMany = Feed.loaded(Links.OPEN + "margin time 0 volts 2;");
        Check.same(36, "volts 2 needed of 3 voltages", tooMany.bestVref(0, 0), NONE);
    }

    /** A lane that works at one reference voltage alone, the first or the last one. */
    private static void outerVoltages() {
        for (int vref = 0; vref < 3; vref += 2) {
            LinkTraining x = Feed.loaded("link step 10 taps 32 vrefs 3;rate f period 100 jitter 5;"
                    + "lane a skew 50 width 800 vref " + vref + " slope 40;pattern p 01;");
            Check.same(36, "the outer voltage", x.bestVref(0, 0), vref);
            Check.same(35, "at the outer voltage", x.bestTap(0, 0), 5);
            Check.same(37, "at the outer voltage", x.scoreOf(0), 30);
            Check.same(38, "at the outer voltage", x.trainableBits(), 3);
            Check.same(39, "at the outer voltage", x.scoreAt(0), 30);
            Check.same(43, "at the outer voltage", x.greatestMargin(), 30);
            Check.same(44, "the outer voltage", x.sharedVref(1), vref);
            Check.same(26, "at the outer voltage", x.eyeArea(0, 0), 7);
            Check.same(28, "at the outer voltage", x.eyeHeight(0, 5), 1);
            Check.same(47, "at the outer voltage", x.train(), 30);
            Check.same(53, "the outer voltage", x.setting(0, 1), vref);
            Check.same(49, "at the outer voltage", x.retrain(0), 30);
        }
    }

    /** Bits that a lane samples at its first or its last tap alone, or in part. */
    private static void outerBits() {
        String rest = "rate f period 100 jitter 0;pattern p 01;";
        LinkTraining first = Feed.loaded("link step 10 taps 30 vrefs 1;" + rest
                + "lane a skew 60 width 1000 vref 0 slope 0;");
        Check.same(38, "a bit of the first tap alone", first.trainableBits(), 4);
        Check.same(37, "a bit of the first tap alone", first.scoreOf(-1), 0);
        LinkTraining last = Feed.loaded("link step 10 taps 31 vrefs 1;" + rest
                + "lane a skew 50 width 1000 vref 0 slope 0;");
        Check.same(38, "a bit of the last tap alone", last.trainableBits(), 4);
        Check.same(35, "a bit of the last tap alone", last.bestTap(0, 3), 30);
        LinkTraining high = Feed.loaded("link step 10 taps 14 vrefs 1;" + rest
                + "lane a skew 90 width 1000 vref 0 slope 0;");
        Check.same(43, "the highest bit is the widest", high.greatestMargin(), 40);
        Check.same(47, "the highest bit is the best", high.train(), 40);
        Check.same(52, "the highest bit", high.trainedBit(), 0);
        LinkTraining low = Feed.loaded("link step 10 taps 14 vrefs 1;" + rest
                + "lane a skew 50 width 1000 vref 0 slope 0;");
        Check.same(43, "the lowest bit is the widest", low.greatestMargin(), 40);
        Check.same(47, "the lowest bit is the best", low.train(), 40);
        // Lane a has bit -1 at taps 0 to 3, lane b at taps 4 to 13; no other bit is common.
        LinkTraining part = Feed.loaded("link step 10 taps 14 vrefs 1;" + rest
                + "lane a skew 90 width 1000 vref 0 slope 0;lane b skew 190 width 1000 vref 0 slope 0;");
        Check.same(43, "the common bit alone", part.greatestMargin(), 10);
        Check.same(38, "the common bit alone", part.trainableBits(), 1);
        Check.same(47, "the common bit alone", part.train(), 10);
        Check.same(52, "the common bit alone", part.trainedBit(), -1);
    }

    private static void bitScores() {
        LinkTraining x = Feed.loaded(Links.TWO);
        Check.same(37, "scoreOf(0)", x.scoreOf(0), 30);
        Check.same(37, "scoreOf(1)", x.scoreOf(1), 30);
        Check.same(37, "scoreOf(2), of lane 0 alone", x.scoreOf(2), NONE);
        Check.same(37, "scoreOf(-1), of lane 1 alone", x.scoreOf(-1), NONE);
        Check.same(37, "scoreOf(100)", x.scoreOf(100), NONE);
        Check.same(38, "trainableBits", x.trainableBits(), 2);
        Check.same(38, "trainableBits of none", Feed.loaded(Links.DRIFT).trainableBits(), 0);
        LinkTraining open = Feed.loaded(Links.OPEN);
        Check.same(38, "trainableBits of one lane", open.trainableBits(), 4);
        Check.same(37, "a score of 0 is a score", open.scoreOf(3), 0);
        Check.same(37, "equal to the tap",
                Feed.loaded(Links.TWO.replace("skew 150 width 800", "skew 150 width 700")).scoreOf(0), 30);
        Check.same(37, "the smaller one counts",
                Feed.loaded(Links.TWO.replace("skew 150 width 800", "skew 150 width 500")).scoreOf(0), 20);
    }

    private static final String RATES = "link step 10 taps 32 vrefs 1;rate a period 200 jitter 0;"
            + "rate b period 100 jitter 60;rate c period 150 jitter 0;rate d period 150 jitter 0;"
            + "lane l skew 100 width 800 vref 0 slope 0;pattern p 01;";

    /** The first three of the four rates cannot be trained. */
    private static final String CHAIN = "link step 10 taps 32 vrefs 1;rate a period 100 jitter 60;"
            + "rate b period 101 jitter 60;rate c period 102 jitter 60;rate d period 160 jitter 0;"
            + "lane l skew 100 width 800 vref 0 slope 0;pattern p 01;"
            + "fallback a to b;fallback b to c;fallback c to d;fallback d to a;";

    private static void rates() {
        LinkTraining x = Feed.loaded(RATES + "fallback b to d;fallback d to a;fallback a to b;");
        // Rate a: half 80, bit 0 at taps 2 to 18; rates c and d: half 60, bit 0 at taps 4 to 16.
        Check.same(39, "scoreAt(0)", x.scoreAt(0), 40);
        Check.same(39, "scoreAt(1)", x.scoreAt(1), NONE);
        Check.same(39, "scoreAt(2)", x.scoreAt(2), 40);
        Check.same(40, "fastestRate", x.fastestRate(), 2);
        Check.same(40, "fastestRate of none", Feed.loaded(RATES.replace("width 800", "width 1")
                .replace("jitter 0", "jitter 9")).fastestRate(), NONE);
        Check.same(40, "the first one", Feed.loaded(Links.TWO).fastestRate(), 0);
        Check.same(41, "fallbackFrom(0)", x.fallbackFrom(0), 0);
        Check.same(41, "fallbackFrom(1)", x.fallbackFrom(1), 3);
        Check.same(41, "without a fallback", Feed.loaded(RATES).fallbackFrom(1), NONE);
        LinkTraining round = Feed.loaded(RATES.replace("width 800", "width 1").replace("jitter 0", "jitter 9")
                + "fallback a to b;fallback b to a;fallback c to c;fallback d to c;");
        for (int rate = 0; rate < 4; rate++) {
            Check.same(41, "round " + rate, round.fallbackFrom(rate), NONE);
        }
        Check.same(39, "rate stays", x.rate(), 0);
        Check.same(41, "a fallback to rate 0", Feed.loaded(RATES + "fallback b to a;").fallbackFrom(1), 0);
        Check.same(41, "through all rates", Feed.loaded(CHAIN).fallbackFrom(0), 3);
        LinkTraining warm = Feed.loaded(Links.DRIFT);
        Check.same(39, "scoreAt(1) at 0", warm.scoreAt(1), 22);
        warm.setTemperature(920);
        // The offsets are now 10 * tap - 8, the eye is taps 0 to 9.
        Check.same(39, "scoreAt(1) at 920", warm.scoreAt(1), 10);
        Check.same(11, "rate after the questions", warm.rate(), 0);
    }

    private static void whatIf() {
        LinkTraining x = Feed.loaded(Links.TWO);
        Check.same(42, "without the only pattern all taps work", x.scoreWithout(0), 40);
        Check.same(42, "and the next training tests it again", x.scoreAt(0), 30);
        Check.same(43, "greatestMargin", x.greatestMargin(), 30);
        LinkTraining two = Feed.loaded("link step 10 taps 32 vrefs 1;rate r period 100 jitter 5;"
                + "lane l skew 50 width 800 vref 0 slope 0;pattern p 0;pattern q 01;stress run 0 change 5;");
        Check.same(42, "without the easy one", two.scoreWithout(0), 20);
        Check.same(42, "without the hard one", two.scoreWithout(1), 30);
        LinkTraining shut = Feed.loaded(Links.TWO.replace("jitter 5", "jitter 41"));
        Check.same(43, "greatestMargin of none", shut.greatestMargin(), NONE);
        Check.same(42, "even a shut eye", shut.scoreWithout(0), 40);
        LinkTraining point = Feed.loaded(Links.TWO.replace("jitter 5", "jitter 40"));
        Check.same(43, "greatestMargin of a point", point.greatestMargin(), 0);
        LinkTraining needed = Feed.loaded(Links.TWO + "margin time 100 volts 1;");
        Check.same(43, "the required one does not count", needed.greatestMargin(), 30);
        Check.same(43, "the voltages do", Feed.loaded(Links.TWO + "margin time 0 volts 2;").greatestMargin(), NONE);
        Check.same(43, "by the first lane", Feed.loaded(Links.TWO.replace("skew 50 width 800", "skew 50 width 600"))
                .greatestMargin(), 20);
        Check.same(43, "by the last lane", Feed.loaded(Links.TWO.replace("skew 150 width 800", "skew 150 width 600"))
                .greatestMargin(), 20);
        LinkTraining wide = Feed.loaded("link step 49 taps 64 vrefs 1;rate r period 2000 jitter 0;"
                + "lane l skew 1100 width 1000 vref 0 slope 0;pattern p 0;");
        Check.same(43, "500 at the most", wide.greatestMargin(), 500);
        LinkTraining apart = Feed.loaded("link step 10 taps 32 vrefs 3;rate f period 100 jitter 5;"
                + "lane a skew 50 width 800 vref 0 slope 10;lane b skew 150 width 800 vref 2 slope 10;pattern p 01;");
        // Time margins at tap 5 and 15: 30, 20, 10 of lane a and 10, 20, 30 of lane b.
        Check.same(44, "between the two", apart.sharedVref(0), 1);
        Check.same(44, "sharedVref(-1)", apart.sharedVref(-1), NONE);
        Check.same(44, "sharedVref(100)", apart.sharedVref(100), NONE);
        LinkTraining alike = Feed.loaded(Links.TWO.replace("slope 10", "slope 0"));
        Check.same(44, "with a score of 0", point.sharedVref(0), 1);
        Check.same(44, "among equals the lowest", alike.sharedVref(0), 0);
        Check.same(44, "by the required margins", Feed.loaded(Links.TWO.replace("slope 10", "slope 0")
                + "margin time 0 volts 1;").sharedVref(0), 1);
    }

    private static void training() {
        LinkTraining x = Feed.loaded(Links.TWO);
        Check.same(51, "isTrained before", x.isTrained(), false);
        Check.same(47, "train", x.train(), 30);
        Check.same(51, "isTrained after", x.isTrained(), true);
        Check.same(52, "the smallest bit among equals", x.trainedBit(), 0);
        int[][] settings = {{5, 1}, {15, 1}};
        for (int lane = 0; lane < 2; lane++) {
            Check.same(53, "tap of lane " + lane, x.setting(lane, 0), settings[lane][0]);
            Check.same(53, "vref of lane " + lane, x.setting(lane, 1), settings[lane][1]);
        }
        Check.same(58, "logSize", x.logSize(), 1);
        Check.same(59, "logEntry(0, 0)", x.logEntry(0, 0), 0);
        Check.same(59, "logEntry(0, 1)", x.logEntry(0, 1), 30);
        Check.same(45, "setRate to the same rate", x.setRate(0), 0);
        Check.same(45, "isTrained after setRate", x.isTrained(), false);
        x.train();
        x.setTemperature(44);
        Check.same(46, "isTrained after setTemperature", x.isTrained(), true);
        Check.same(46, "trainedBit after setTemperature", x.trainedBit(), 0);
        Check.same(46, "setting after setTemperature", x.setting(1, 0), 15);
        LinkTraining below = Feed.loaded("link step 10 taps 32 vrefs 1;rate f period 100 jitter 0;"
                + "lane a skew 360 width 1000 vref 0 slope 0;pattern p 01;");
        // Bits -3 and -2 have whole eyes; -4 has a single tap and 0 too few.
        Check.same(47, "train", below.train(), 40);
        Check.same(52, "a negative bit", below.trainedBit(), -3);
    }

    private static void eightLanes() {
        StringBuilder text = new StringBuilder("link step 10 taps 32 vrefs 1;rate f period 100 jitter 5;pattern p 01;");
        for (int i = 0; i < 8; i++) {
            text.append("lane ").append((char) ('a' + i)).append(" skew ").append(50 + 10 * i)
                    .append(" width 800 vref 0 slope 0;");
        }
        LinkTraining x = Feed.loaded(text.toString());
        Check.same(47, "train", x.train(), 30);
        for (int i = 0; i < 8; i++) {
            Check.same(53, "tap of lane " + i, x.setting(i, 0), 5 + i);
        }
        Check.same(54, "failing", x.failing(), 0);
        Check.same(61, "writeSettings", x.writeSettings(), 8 * 6 + 3);
        x.set(7, 0, 0);
        Check.same(54, "the last one fails", x.failing(), 128);
        Check.same(55, "the last one is the weakest", x.weakestLane(), 7);
    }

    private static void failedTraining() {
        LinkTraining x = Feed.loaded("link step 10 taps 32 vrefs 1;rate f period 100 jitter 20;"
                + "lane a skew 50 width 500 vref 0 slope 0 drift 10;lane b skew 310 width 500 vref 0 slope 0 drift 50;"
                + "pattern p 01;");
        Check.same(47, "train", x.train(), 0);
        Check.same(52, "trainedBit", x.trainedBit(), 0);
        x.setTemperature(1250);
        // Lane b's offsets now start at -310 - 625: its bits are -9 to -6, those of lane a -2 to 1.
        Check.same(47, "train fails", x.train(), NONE);
        Check.same(47, "isTrained still", x.isTrained(), true);
        Check.same(47, "trainedBit still", x.trainedBit(), 0);
        Check.same(47, "setting still", x.setting(0, 0), 5);
        Check.same(58, "logSize", x.logSize(), 2);
        Check.same(59, "the failed attempt's score", x.logEntry(1, 1), -1);
        Check.same(60, "undo the failed one", x.undo(), 3);
        Check.same(58, "logSize", x.logSize(), 1);
    }

    private static void withFallback() {
        LinkTraining x = Feed.loaded(Links.DRIFT);
        Check.same(48, "trainWithFallback", x.trainWithFallback(), 1);
        Check.same(48, "rate", x.rate(), 1);
        Check.same(48, "isTrained", x.isTrained(), true);
        Check.same(58, "logSize", x.logSize(), 2);
        Check.same(59, "rate of the first", x.logEntry(0, 0), 0);
        Check.same(59, "score of the first", x.logEntry(0, 1), -1);
        Check.same(59, "rate of the second", x.logEntry(1, 0), 1);
        Check.same(59, "score of the second", x.logEntry(1, 1), 22);
        Check.same(60, "undo", x.undo(), 1);
        Check.same(60, "rate after undo", x.rate(), 0);
        Check.same(60, "logSize after undo", x.logSize(), 0);
        LinkTraining y = Feed.loaded(Links.DRIFT.replace("margin time 20", "margin time 500"));
        Check.same(48, "all fail", y.trainWithFallback(), NONE);
        Check.same(48, "each is tried once", y.logSize(), 2);
        Check.same(48, "rate stays", y.rate(), 0);
        Check.same(48, "isTrained", y.isTrained(), false);
        LinkTraining z = Feed.loaded(RATES + "fallback b to b;");
        Check.same(48, "the present one works", z.trainWithFallback(), 0);
        Check.same(48, "one attempt", z.logSize(), 1);
        z.setRate(1);
        Check.same(48, "a fallback to itself", z.trainWithFallback(), NONE);
        Check.same(48, "tried once", z.logSize(), 2);
        LinkTraining toFirst = Feed.loaded(RATES + "fallback b to a;");
        toFirst.setRate(1);
        Check.same(48, "a fallback to rate 0", toFirst.trainWithFallback(), 0);
        LinkTraining chain = Feed.loaded(CHAIN);
        Check.same(48, "through all rates", chain.trainWithFallback(), 3);
        Check.same(48, "an attempt for each", chain.logSize(), 4);
        Check.same(48, "and the last one present", chain.rate(), 3);
    }

    private static void trained() {
        LinkTraining x = Feed.loaded(Links.TWO + "pattern q 1000;");
        x.train();
        Check.same(54, "failing", x.failing(), 0);
        Check.same(55, "weakestLane among equals", x.weakestLane(), 0);
        Check.same(50, "set to another bit", x.set(1, 25, 1), 30);
        Check.same(53, "the new tap", x.setting(1, 0), 25);
        Check.same(54, "failing by the bit", x.failing(), 2);
        Check.same(55, "the score counts, not the bit", x.weakestLane(), 0);
        Check.same(56, "received by lane 0", x.receive(0, 1), 1);
        Check.same(56, "one bit later", x.receive(1, 1), 8);
        Check.same(56, "one bit later", x.receive(1, 0), 1);
        Check.same(50, "set to a weaker one", x.set(1, 7, 0), 0);
        Check.same(56, "one bit earlier", x.receive(1, 1), 2);
        Check.same(55, "the weaker one", x.weakestLane(), 1);
        Check.same(50, "set where it does not work", x.set(0, 0, 2), NONE);
        Check.same(53, "the new voltage", x.setting(0, 1), 2);
        Check.same(54, "failing", x.failing(), 3);
        Check.same(55, "that which does not work", x.weakestLane(), 0);
        Check.same(56, "received where it does not work", x.receive(0, 0), NONE);
        Check.same(49, "retrain(0)", x.retrain(0), 30);
        Check.same(49, "the tap", x.setting(0, 0), 5);
        Check.same(49, "the voltage", x.setting(0, 1), 1);
        Check.same(49, "the other lane", x.setting(1, 0), 7);
        x.set(0, 31, 0);
        Check.same(54, "failing", x.failing(), 3);
    }

    private static void receiving() {
        LinkTraining x = Feed.loaded("link step 10 taps 128 vrefs 1;rate r period 100 jitter 0;"
                + "lane l skew 350 width 1000 vref 0 slope 0;pattern p 1101000;pattern q 1111111111111111;"
                + "pattern n 0000000000000001;");
        x.train();
        Check.same(52, "trainedBit", x.trainedBit(), -3);
        Check.same(56, "k = 0", x.receive(0, 0), 0b0001011);
        x.set(0, 64, 0);
        Check.same(18, "bitAt", x.bitAt(0, 64), 3);
        // k = 6: bit i is digit (i + 6) modulo 7, so that the first digit comes second.
        Check.same(56, "k = 6", x.receive(0, 0), 0b0010110);
        Check.same(56, "16 ones", x.receive(0, 1), 65535);
        Check.same(56, "16 digits", x.receive(0, 2), 1 << 9);
        LinkTraining strict = Feed.loaded("link step 1 taps 128 vrefs 9;rate r period 101 jitter 3;"
                + "lane l skew 64 width 777 vref 4 slope 7;pattern p 01;pattern q 0011;stress run 2 change 1;");
        strict.train();
        // Halves 34 (p) and 32 (q).
        strict.set(0, 64 + 34, 4);
        Check.same(56, "the phase is half the eye", strict.receive(0, 0), 2);
        Check.same(56, "the phase is more than half", strict.receive(0, 1), NONE);
        strict.set(0, 64 + 35, 4);
        Check.same(56, "the phase is half + 1", strict.receive(0, 0), NONE);
        strict.set(0, 64 - 32, 4);
        Check.same(56, "the phase is half the eye, below", strict.receive(0, 1), 12);
    }

    private static void drift() {
        LinkTraining x = Feed.loaded(Links.DRIFT);
        x.trainWithFallback();
        Check.same(57, "upwards", x.temperatureLimit(true), 919);
        Check.same(57, "downwards", x.temperatureLimit(false), -400);
        x.setTemperature(919);
        Check.same(54, "failing at the limit", x.failing(), 0);
        Check.same(57, "upwards from the limit", x.temperatureLimit(true), 919);
        x.setTemperature(920);
        Check.same(54, "failing beyond", x.failing(), 1);
        Check.same(49, "retrain", x.retrain(0), 10);
        Check.same(53, "the new tap", x.setting(0, 0), 4);
        Check.same(54, "failing after retrain", x.failing(), 0);
        Check.same(60, "undo of retrain", x.undo(), 4);
        Check.same(54, "failing after undo", x.failing(), 1);
        LinkTraining back = Feed.loaded("link step 1 taps 128 vrefs 1;rate r period 100 jitter 40;"
                + "lane l skew 0 width 1000 vref 0 slope 0 drift 50;lane m skew 0 width 1000 vref 0 slope 0 drift 20;"
                + "pattern p 01;");
        Check.same(47, "train", back.train(), 10);
        back.setTemperature(3);
        // Lane l, drift 50, half 10: its offset at its tap is -(50 * t / 100), the phase 10 holds up to t = 21.
        Check.same(57, "the nearest of the lanes, upwards", back.temperatureLimit(true), 21);
        Check.same(57, "the nearest of the lanes, downwards", back.temperatureLimit(false), -21);
        LinkTraining end = oneLane("period 100 jitter 40", "skew 64 width 1000 vref 0 slope 0 drift 50");
        end.setTemperature(1240);
        end.train();
        // Shift 620, and 625 at 1250: a phase of -6 becomes -11 there alone.
        end.set(0, end.setting(0, 0) - end.phase(0, end.setting(0, 0)) - 6, 0);
        Check.same(57, "all but the highest", end.temperatureLimit(true), 1249);
        end.setTemperature(-390);
        end.train();
        // Shift -195, and -200 at -400: a phase of 6 becomes 11 there alone.
        end.set(0, end.setting(0, 0) - end.phase(0, end.setting(0, 0)) + 6, 0);
        Check.same(57, "all but the lowest", end.temperatureLimit(false), -399);
        end.setTemperature(-399);
        Check.same(57, "from the limit itself", end.temperatureLimit(false), -399);
    }

    private static void logLimit() {
        // Scores 40, -1, 40 and 37 of the rates 0 to 3.
        LinkTraining x = Feed.loaded("link step 10 taps 32 vrefs 1;rate a period 200 jitter 0;"
                + "rate b period 100 jitter 60;rate c period 150 jitter 0;rate d period 160 jitter 0;"
                + "lane l skew 100 width 800 vref 0 slope 0;pattern p 01;");
        int[] scores = {40, NONE, 40, 37};
        for (int i = 0; i < 33; i++) {
            x.setRate(i * i % 7 % 4);
            Check.same(47, "train " + i, x.train(), scores[i * i % 7 % 4]);
            Check.same(58, "logSize", x.logSize(), Math.min(i + 1, 30));
        }
        for (int i = 0; i < 30; i++) {
            int rate = (i + 3) * (i + 3) % 7 % 4;
            Check.same(59, "rate of " + i, x.logEntry(i, 0), rate);
            Check.same(59, "score of " + i, x.logEntry(i, 1), scores[rate]);
        }
        Check.refuses(59, "logEntry(30, 0)", x, IndexOutOfBoundsException.class, y -> y.logEntry(30, 0));
        x.undo();
        Check.same(60, "the oldest one is back", x.logEntry(0, 0), 2 * 2 % 7 % 4);
        Check.same(60, "the latest one is gone", x.logEntry(29, 0), 31 * 31 % 7 % 4);
    }

    private static void undoing() {
        LinkTraining x = new LinkTraining();
        for (int i = 1; i <= 9; i++) {
            x.setTemperature(i);
        }
        for (int left = 7; left >= 0; left--) {
            Check.same(60, "undo", x.undo(), left);
            Check.same(60, "temperature", x.temperature(), left + 1);
        }
        Check.refuses(60, "the ninth", x, IllegalStateException.class, LinkTraining::undo);
        Feed.load(x, Links.TWO);
        x.train();
        x.writeSettings();
        Feed.load(x, Links.OPEN);
        Check.same(60, "undo of load", x.undo(), 2);
        Check.same(60, "laneCount", x.laneCount(), 2);
        Check.same(60, "isTrained", x.isTrained(), true);
        Check.same(60, "setting", x.setting(1, 0), 15);
        Check.same(60, "logSize", x.logSize(), 1);
        Check.same(60, "undo of train", x.undo(), 1);
        Check.same(60, "isTrained", x.isTrained(), false);
        Feed.text(x, "abc");
        Check.same(60, "undo of load", x.undo(), 0);
        Check.same(60, "laneCount", x.laneCount(), 0);
        Check.same(60, "rate", x.rate(), NONE);
        Check.same(60, "the input buffer stays", Check.answer(x, y -> cut(y, 3)), "cut");
        Check.refuses(60, "and only that", x, IllegalArgumentException.class, y -> cut(y, 4));
        Check.same(60, "the output buffer stays", x.outputByte(0), (int) 'a');
    }

    private static void undoneCalls() {
        LinkTraining x = Feed.loaded(Links.TWO);
        x.train();
        x.load();
        x.retrain(0);
        x.set(0, 5, 1);
        x.setTemperature(0);
        x.trainWithFallback();
        x.setRate(0);
        Check.same(60, "the error stays", x.errorCode(), 1);
        Check.same(60, "undo of setRate", x.undo(), 6);
        Check.same(60, "isTrained", x.isTrained(), true);
        Check.same(60, "undo of trainWithFallback", x.undo(), 5);
        Check.same(60, "undo of setTemperature", x.undo(), 4);
        Check.same(60, "undo of set", x.undo(), 3);
        Check.same(60, "undo of retrain", x.undo(), 2);
        Check.same(60, "undo of train", x.undo(), 1);
        Check.same(60, "the error stays", x.errorCode(), 1);
        Check.same(60, "its position stays", x.errorPosition(), 0);
        LinkTraining y = Feed.loaded("link step 10 taps 32 vrefs 1;rate r period 100 jitter 0;"
                + "lane l skew 30 width 1000 vref 0 slope 0 drift 50;pattern p 01;margin time 40 volts 0;");
        y.train();
        y.setTemperature(1250);
        Check.same(49, "no good setting", y.retrain(0), NONE);
        Check.same(49, "the setting stays", y.setting(0, 0), 12);
        Check.same(60, "a retrain of NONE is not kept", y.undo(), 2);
    }

    private static void output() {
        LinkTraining x = Feed.loaded(Links.TWO);
        x.train();
        String due = "a:5/1\nb:15/1\n";
        Check.same(61, "writeSettings", x.writeSettings(), due.length());
        for (int i = 0; i < due.length(); i++) {
            Check.same(62, "outputByte(" + i + ")", x.outputByte(i), (int) due.charAt(i));
        }
        Check.refuses(62, "outputByte(13)", x, IndexOutOfBoundsException.class, y -> y.outputByte(13));
        Check.refuses(62, "outputByte(-1)", x, IndexOutOfBoundsException.class, y -> y.outputByte(-1));
        x.set(1, 0, 0);
        Check.same(62, "nothing is written by set", x.outputByte(8), (int) '1');
        Check.same(61, "a shorter one", x.writeSettings(), 12);
        Check.same(61, "in its place", x.outputByte(8), (int) '0');
        Check.refuses(61, "and no longer", x, IndexOutOfBoundsException.class, y -> y.outputByte(12));
        LinkTraining big = Feed.loaded("link step 10 taps 128 vrefs 16;rate r period 100 jitter 0;"
                + "lane abcdef skew 0 width 1000 vref 0 slope 0;pattern p 01;");
        big.train();
        big.set(0, 127, 15);
        Check.same(61, "abcdef:127/15", big.writeSettings(), 14);
        Check.same(62, "the 7", big.outputByte(9), (int) '7');
        Check.same(62, "the 5", big.outputByte(12), (int) '5');
    }

    public static void main(String[] args) {
        newObject();
        buffer();
        byteOrder();
        loading();
        finding();
        present();
        stress();
        offsets();
        bits();
        halves();
        eyes();
        areas();
        edges();
        margins();
        best();
        outerVoltages();
        outerBits();
        bitScores();
        rates();
        whatIf();
        training();
        eightLanes();
        failedTraining();
        withFallback();
        trained();
        receiving();
        drift();
        logLimit();
        undoing();
        undoneCalls();
        output();
        Check.end(true);
    }
}
