import java.util.NoSuchElementException;

/**
 * Wrong inputs: each call throws what the document names, the first of its throws clause if several apply, and
 * changes nothing.
 */
public final class RefusalsTest {
    private static final Class<IndexOutOfBoundsException> INDEX = IndexOutOfBoundsException.class;
    private static final Class<IllegalArgumentException> ARGUMENT = IllegalArgumentException.class;
    private static final Class<IllegalStateException> STATE = IllegalStateException.class;
    private static final int MIN = Integer.MIN_VALUE;
    private static final int MAX = Integer.MAX_VALUE;

    private static final int NEW = 0;
    private static final int LOADED = 1;
    private static final int TRAINED = 2;

    private RefusalsTest() { }

    private static LinkTraining in(int condition) {
        LinkTraining x = new LinkTraining();
        if (condition >= LOADED) {
            Feed.load(x, Links.TWO);
            x.setTemperature(30);
        }
        if (condition >= TRAINED) {
            x.train();
            x.writeSettings();
        }
        Feed.load(x, "link 7");
        Feed.text(x, "abc");
        return x;
    }

    /** All that can be seen without changing it. */
    private static String seen(LinkTraining x) {
        StringBuilder seen = new StringBuilder();
        seen.append(x.errorCode()).append(' ').append(x.errorPosition()).append(' ').append(x.rateCount()).append(' ')
                .append(x.laneCount()).append(' ').append(x.patternCount()).append(' ').append(x.rate()).append(' ')
                .append(x.temperature()).append(' ').append(x.isTrained()).append(' ')
                .append(Check.answer(x, LinkTraining::trainedBit)).append(' ').append(x.logSize());
        for (int i = 0; i < 2; i++) {
            int n = i;
            seen.append(' ').append(Check.answer(x, y -> y.setting(n, 0)))
                    .append(' ').append(Check.answer(x, y -> y.setting(n, 1)))
                    .append(' ').append(Check.answer(x, y -> y.logEntry(n, 0)))
                    .append(' ').append(Check.answer(x, y -> y.logEntry(n, 1)));
        }
        for (int i = 0; i < 14; i++) {
            int n = i;
            seen.append(' ').append(Check.answer(x, y -> y.outputByte(n)));
        }
        return seen.toString();
    }

    private static Object cut(LinkTraining x, int length) {
        x.truncate(length);
        return "cut";
    }

    private static void refused(int promise, int condition, String what, Class<? extends RuntimeException> due,
            Check.Call call) {
        LinkTraining x = in(condition);
        String before = seen(x);
        Check.refuses(promise, what, x, due, call);
        Check.same(promise, what + ": what is seen afterwards", seen(x), before);
        Check.refuses(promise, what + ": the input is no longer", x, ARGUMENT, y -> cut(y, 4));
        Check.same(promise, what + ": the input is no shorter", Check.answer(x, y -> cut(y, 3)), "cut");
        Check.same(promise, what + ": what can be undone", Check.answer(x, LinkTraining::undo),
                Check.answer(in(condition), LinkTraining::undo));
    }

    private static void buffers() {
        for (int length : new int[] {-1, 4, MIN, MAX}) {
            refused(3, LOADED, "truncate(" + length + ")", ARGUMENT, x -> cut(x, length));
        }
        for (int kind : new int[] {-1, 3, MIN, MAX}) {
            refused(7, LOADED, "find(" + kind + ")", ARGUMENT, x -> x.find(kind));
        }
        for (int index : new int[] {-1, 13, MIN, MAX}) {
            refused(62, TRAINED, "outputByte(" + index + ")", INDEX, x -> x.outputByte(index));
        }
        refused(61, LOADED, "writeSettings", STATE, LinkTraining::writeSettings);
        refused(61, NEW, "writeSettings", STATE, LinkTraining::writeSettings);
        refused(60, NEW, "undo", STATE, LinkTraining::undo);
    }

    private static void patterns() {
        for (int pattern : new int[] {-1, 1, MIN, MAX}) {
            refused(13, LOADED, "longestRun(" + pattern + ")", INDEX, x -> x.longestRun(pattern));
            refused(14, LOADED, "changes(" + pattern + ")", INDEX, x -> x.changes(pattern));
            refused(15, LOADED, "penalty(" + pattern + ")", INDEX, x -> x.penalty(pattern));
            refused(20, LOADED, "half(0, 0, " + pattern + ")", INDEX, x -> x.half(0, 0, pattern));
            refused(20, LOADED, "half(0, 3, " + pattern + ")", INDEX, x -> x.half(0, 3, pattern));
            refused(21, LOADED, "test(0, 0, 0, " + pattern + ")", INDEX, x -> x.test(0, 0, 0, pattern));
            refused(21, LOADED, "test(0, -1, 3, " + pattern + ")", INDEX, x -> x.test(0, -1, 3, pattern));
            refused(42, LOADED, "scoreWithout(" + pattern + ")", INDEX, x -> x.scoreWithout(pattern));
            refused(56, TRAINED, "receive(0, " + pattern + ")", INDEX, x -> x.receive(0, pattern));
            refused(56, LOADED, "receive(0, " + pattern + ")", INDEX, x -> x.receive(0, pattern));
        }
        refused(13, NEW, "longestRun(0)", INDEX, x -> x.longestRun(0));
        refused(14, NEW, "changes(0)", INDEX, x -> x.changes(0));
        refused(15, NEW, "penalty(0)", INDEX, x -> x.penalty(0));
        refused(42, NEW, "scoreWithout(0)", INDEX, x -> x.scoreWithout(0));
        refused(56, LOADED, "receive(0, 0)", STATE, x -> x.receive(0, 0));
    }

    /** Every method with a lane, at a wrong lane and all other inputs wrong too. */
    private static void lanes(int condition, int lane) {
        String at = " of lane " + lane;
        refused(17, condition, "offset" + at, INDEX, x -> x.offset(lane, -1));
        refused(18, condition, "bitAt" + at, INDEX, x -> x.bitAt(lane, -1));
        refused(19, condition, "phase" + at, INDEX, x -> x.phase(lane, -1));
        refused(20, condition, "half" + at, INDEX, x -> x.half(lane, -1, 0));
        refused(21, condition, "test" + at, INDEX, x -> x.test(lane, -1, -1, 0));
        refused(22, condition, "works" + at, INDEX, x -> x.works(lane, -1, -1));
        refused(23, condition, "firstFailure" + at, INDEX, x -> x.firstFailure(lane, -1, -1));
        refused(24, condition, "eyeCount" + at, INDEX, x -> x.eyeCount(lane, -1));
        refused(25, condition, "eye" + at, INDEX, x -> x.eye(lane, -1, -1, -1));
        refused(26, condition, "eyeArea" + at, INDEX, x -> x.eyeArea(lane, 101));
        refused(27, condition, "eyeFill" + at, INDEX, x -> x.eyeFill(lane, 101));
        refused(28, condition, "eyeHeight" + at, INDEX, x -> x.eyeHeight(lane, -1));
        refused(29, condition, "firstEdge" + at, INDEX, x -> x.firstEdge(lane, -1, -1));
        refused(30, condition, "lastEdge" + at, INDEX, x -> x.lastEdge(lane, -1, -1));
        refused(31, condition, "edgeTests" + at, INDEX, x -> x.edgeTests(lane, -1, -1));
        refused(32, condition, "timeMargin" + at, INDEX, x -> x.timeMargin(lane, -1, -1));
        refused(33, condition, "voltageMargin" + at, INDEX, x -> x.voltageMargin(lane, -1, -1));
        refused(34, condition, "score" + at, INDEX, x -> x.score(lane, -1, -1));
        refused(35, condition, "bestTap" + at, INDEX, x -> x.bestTap(lane, 101));
        refused(36, condition, "bestVref" + at, INDEX, x -> x.bestVref(lane, 101));
        refused(49, condition, "retrain" + at, INDEX, x -> x.retrain(lane));
        refused(50, condition, "set" + at, INDEX, x -> x.set(lane, -1, -1));
        refused(53, condition, "setting" + at, INDEX, x -> x.setting(lane, 2));
        refused(56, condition, "receive" + at, INDEX, x -> x.receive(lane, 0));
    }

    private static void taps(int tap) {
        String at = " at tap " + tap;
        refused(17, LOADED, "offset" + at, ARGUMENT, x -> x.offset(0, tap));
        refused(18, LOADED, "bitAt" + at, ARGUMENT, x -> x.bitAt(0, tap));
        refused(19, LOADED, "phase" + at, ARGUMENT, x -> x.phase(0, tap));
        refused(28, LOADED, "eyeHeight" + at, ARGUMENT, x -> x.eyeHeight(0, tap));
        settings(tap, 1, at);
    }

    private static void vrefs(int vref) {
        String at = " at vref " + vref;
        refused(20, LOADED, "half" + at, ARGUMENT, x -> x.half(0, vref, 0));
        refused(24, LOADED, "eyeCount" + at, ARGUMENT, x -> x.eyeCount(0, vref));
        refused(25, LOADED, "eye" + at, ARGUMENT, x -> x.eye(0, vref, 9, 0));
        settings(5, vref, at);
    }

    private static void settings(int tap, int vref, String at) {
        refused(21, LOADED, "test" + at, ARGUMENT, x -> x.test(0, tap, vref, 0));
        refused(22, LOADED, "works" + at, ARGUMENT, x -> x.works(0, tap, vref));
        refused(23, LOADED, "firstFailure" + at, ARGUMENT, x -> x.firstFailure(0, tap, vref));
        refused(29, LOADED, "firstEdge" + at, ARGUMENT, x -> x.firstEdge(0, tap, vref));
        refused(30, LOADED, "lastEdge" + at, ARGUMENT, x -> x.lastEdge(0, tap, vref));
        refused(31, LOADED, "edgeTests" + at, ARGUMENT, x -> x.edgeTests(0, tap, vref));
        refused(32, LOADED, "timeMargin" + at, ARGUMENT, x -> x.timeMargin(0, tap, vref));
        refused(33, LOADED, "voltageMargin" + at, ARGUMENT, x -> x.voltageMargin(0, tap, vref));
        refused(34, LOADED, "score" + at, ARGUMENT, x -> x.score(0, tap, vref));
        refused(50, LOADED, "set, untrained," + at, ARGUMENT, x -> x.set(0, tap, vref));
        refused(50, TRAINED, "set" + at, ARGUMENT, x -> x.set(0, tap, vref));
    }

    private static void others() {
        for (int bit : new int[] {-101, 101, MIN, MAX}) {
            String at = "(" + bit + ")";
            refused(26, LOADED, "eyeArea" + at, ARGUMENT, x -> x.eyeArea(0, bit));
            refused(27, LOADED, "eyeFill" + at, ARGUMENT, x -> x.eyeFill(0, bit));
            refused(35, LOADED, "bestTap" + at, ARGUMENT, x -> x.bestTap(0, bit));
            refused(36, LOADED, "bestVref" + at, ARGUMENT, x -> x.bestVref(0, bit));
            refused(37, LOADED, "scoreOf" + at, ARGUMENT, x -> x.scoreOf(bit));
            refused(37, NEW, "scoreOf" + at, ARGUMENT, x -> x.scoreOf(bit));
            refused(44, LOADED, "sharedVref" + at, ARGUMENT, x -> x.sharedVref(bit));
            refused(44, NEW, "sharedVref" + at, ARGUMENT, x -> x.sharedVref(bit));
        }
        for (int what : new int[] {-1, 3, MIN, MAX}) {
            refused(25, LOADED, "eye what " + what, ARGUMENT, x -> x.eye(0, 1, 0, what));
            refused(25, LOADED, "eye 99 what " + what, ARGUMENT, x -> x.eye(0, 1, 99, what));
        }
        for (int what : new int[] {-1, 2, MIN, MAX}) {
            refused(53, TRAINED, "setting what " + what, ARGUMENT, x -> x.setting(0, what));
            refused(53, LOADED, "setting what " + what, ARGUMENT, x -> x.setting(0, what));
            refused(59, TRAINED, "logEntry what " + what, ARGUMENT, x -> x.logEntry(0, what));
            refused(59, LOADED, "logEntry(0, " + what + ") of none", INDEX, x -> x.logEntry(0, what));
        }
        for (int index : new int[] {-1, 1, MIN, MAX}) {
            refused(59, TRAINED, "logEntry " + index, INDEX, x -> x.logEntry(index, 7));
        }
        for (int index : new int[] {-1, 3, MIN, MAX}) {
            refused(25, LOADED, "eye " + index, NoSuchElementException.class, x -> x.eye(0, 1, index, 0));
        }
        for (int rate : new int[] {-1, 2, MIN, MAX}) {
            refused(39, LOADED, "scoreAt " + rate, INDEX, x -> x.scoreAt(rate));
            refused(41, LOADED, "fallbackFrom " + rate, INDEX, x -> x.fallbackFrom(rate));
            refused(45, TRAINED, "setRate " + rate, INDEX, x -> x.setRate(rate));
        }
        for (int temperature : new int[] {-401, 1251, MIN, MAX}) {
            refused(46, LOADED, "setTemperature " + temperature, ARGUMENT, x -> x.setTemperature(temperature));
        }
    }

    private static void states() {
        refused(29, LOADED, "firstEdge where it does not work", STATE, x -> x.firstEdge(0, 0, 1));
        refused(30, LOADED, "lastEdge where it does not work", STATE, x -> x.lastEdge(0, 0, 1));
        refused(31, LOADED, "edgeTests where it does not work", STATE, x -> x.edgeTests(0, 0, 1));
        refused(37, NEW, "scoreOf", STATE, x -> x.scoreOf(0));
        refused(38, NEW, "trainableBits", STATE, LinkTraining::trainableBits);
        refused(39, NEW, "scoreAt", INDEX, x -> x.scoreAt(0));
        refused(41, NEW, "fallbackFrom", INDEX, x -> x.fallbackFrom(0));
        refused(43, NEW, "greatestMargin", STATE, LinkTraining::greatestMargin);
        refused(44, NEW, "sharedVref", STATE, x -> x.sharedVref(0));
        refused(45, NEW, "setRate", INDEX, x -> x.setRate(0));
        refused(47, NEW, "train", STATE, LinkTraining::train);
        refused(48, NEW, "trainWithFallback", STATE, LinkTraining::trainWithFallback);
        for (int condition : new int[] {NEW, LOADED}) {
            refused(52, condition, "trainedBit", STATE, LinkTraining::trainedBit);
            refused(54, condition, "failing", STATE, LinkTraining::failing);
            refused(55, condition, "weakestLane", STATE, LinkTraining::weakestLane);
            refused(57, condition, "temperatureLimit", STATE, x -> x.temperatureLimit(true));
        }
        refused(49, LOADED, "retrain", STATE, x -> x.retrain(0));
        refused(50, LOADED, "set", STATE, x -> x.set(0, 0, 0));
        refused(53, LOADED, "setting", STATE, x -> x.setting(0, 0));
        LinkTraining failing = in(TRAINED);
        failing.set(1, 0, 0);
        Check.refuses(57, "upwards, a lane fails", failing, STATE, x -> x.temperatureLimit(true));
        Check.refuses(57, "downwards, a lane fails", failing, STATE, x -> x.temperatureLimit(false));
    }

    public static void main(String[] args) {
        buffers();
        patterns();
        lanes(NEW, 0);
        for (int lane : new int[] {-1, 2, MIN, MAX}) {
            lanes(LOADED, lane);
            lanes(TRAINED, lane);
        }
        for (int tap : new int[] {-1, 32, MIN, MAX}) {
            taps(tap);
        }
        for (int vref : new int[] {-1, 3, MIN, MAX}) {
            vrefs(vref);
        }
        others();
        states();
        Check.end(false);
    }
}
