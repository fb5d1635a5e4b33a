import java.util.function.ToIntFunction;

/** What is done with a trained link, and section 7 of the document, sentence by sentence. */
public final class TrainedBoundsTest {
    private static final Class<IllegalArgumentException> ARGUMENT = IllegalArgumentException.class;
    private static final Class<IllegalStateException> STATE = IllegalStateException.class;
    private static final Class<IndexOutOfBoundsException> INDEX = IndexOutOfBoundsException.class;
    private static final int NONE = LinkTraining.NONE;

    private TrainedBoundsTest() { }

    /** Eight lanes a to h, bits of ten taps from tap 0 on, at trained bit 0, tap 4 and voltage 0. */
    private static LinkTraining eight() {
        StringBuilder text = new StringBuilder("link step 10 taps 32 vrefs 2;rate r period 100 jitter 0;pattern p 01;");
        for (int i = 0; i < 8; i++) {
            text.append("lane ").append((char) ('a' + i)).append(" skew 50 width 1000 vref 0 slope 60;");
        }
        LinkTraining x = Feed.loaded(text.toString());
        x.train();
        return x;
    }

    private static void settings() {
        Sentence.of("set: Gives one lane another setting, whatever it is worth (tap, vref: 0 to the number minus 1). NONE if "
                + "the lane does not work there.");
        for (int lane = 0; lane < 8; lane++) {
            LinkTraining x = eight();
            Sentence.same("where it works", x.set(lane, 13, 0), 30);
            Sentence.same("at the ends", x.set(lane, 0, 0), 0);
            Sentence.same("at the other ends", x.set(lane, 31, 1), NONE);
            for (int other = 0; other < 8; other++) {
                Sentence.same("lane " + other + " after set of " + lane, x.setting(other, 0) + "/" + x.setting(other, 1),
                        other == lane ? "31/1" : "4/0");
            }
            Sentence.same("isTrained", x.isTrained(), true);
            Sentence.same("trainedBit", x.trainedBit(), 0);
            Sentence.same("logSize", x.logSize(), 1);
        }
        Sentence.of("retrain: Gives one lane its best setting for the trained bit. NONE, and nothing changes, if there is no "
                + "good setting.");
        LinkTraining x = eight();
        x.set(7, 31, 1);
        x.set(6, 31, 1);
        Sentence.same("retrain(7)", x.retrain(7), 40);
        Sentence.same("lane 7", x.setting(7, 0) + "/" + x.setting(7, 1), "4/0");
        Sentence.same("lane 6", x.setting(6, 0) + "/" + x.setting(6, 1), "31/1");
        Sentence.same("retrain(0) to the same", x.retrain(0), 40);
        Sentence.same("can be undone", x.undo(), 5);
        LinkTraining point = Feed.loaded("link step 10 taps 32 vrefs 1;rate r period 100 jitter 0;"
                + "lane l skew 0 width 1000 vref 0 slope 0 drift 50;pattern p 0;margin time 40 volts 0;");
        point.train();
        point.setTemperature(1250);
        // Offsets from -625 on: bit 1 would need tap 68.
        Sentence.same("of no such bit", point.retrain(0), NONE);
        Sentence.same("the setting stays", point.setting(0, 0), 9);
        Sentence.same("cannot be undone", point.undo(), 2);
        point.setTemperature(-40);
        // Offsets from 20 on: the eye of bit 1 is taps 3 to 12, the middle ones 7 and 8.
        Sentence.same("just good enough", point.retrain(0), 40);
        Sentence.same("the new tap", point.setting(0, 0), 7);
        LinkTraining zero = Feed.loaded("link step 10 taps 32 vrefs 1;rate r period 100 jitter 50;"
                + "lane l skew 50 width 1000 vref 0 slope 0;pattern p 0;");
        zero.train();
        Sentence.same("a score of 0 is not NONE", zero.retrain(0), 0);
        Sentence.same("and can be undone", zero.undo(), 2);
    }

    private static void failures() {
        Sentence.of("Sets of lanes are bit masks in which bit i stands for lane i. failing: the lanes that do not work at "
                + "their settings, or have another bit there than the trained one.");
        Sentence.same("none", eight().failing(), 0);
        int all = 0;
        LinkTraining every = eight();
        for (int lane = 0; lane < 8; lane++) {
            LinkTraining x = eight();
            x.set(lane, 4, 1);
            Sentence.same("lane " + lane + " does not work", x.failing(), 1 << lane);
            x.set(lane, 10, 0);
            Sentence.same("lane " + lane + " at the next bit", x.failing(), 1 << lane);
            x.set(lane, 9, 0);
            Sentence.same("lane " + lane + " at the last tap", x.failing(), 0);
            every.set(lane, 10, 0);
            all |= 1 << lane;
            Sentence.same("all up to lane " + lane, every.failing(), all);
        }
        Sentence.of("weakestLane: the lane with the smallest score at its setting (a lane that does not work there has the "
                + "score -1), the lowest number among equals.");
        Sentence.same("eight equals", eight().weakestLane(), 0);
        for (int lane = 1; lane < 8; lane++) {
            LinkTraining x = eight();
            x.set(lane, 3, 0);
            Sentence.same("30 against 40", x.weakestLane(), lane);
            x.set(lane - 1, 3, 0);
            Sentence.same("two of 30", x.weakestLane(), lane - 1);
            x.set(lane, 0, 0);
            Sentence.same("0 against 30", x.weakestLane(), lane);
            x.set(lane - 1, 0, 1);
            Sentence.same("-1 against 0", x.weakestLane(), lane - 1);
            x.set(lane, 0, 1);
            Sentence.same("two of -1", x.weakestLane(), lane - 1);
        }
        LinkTraining another = eight();
        another.set(0, 14, 0);
        Sentence.same("a score of 40 at another bit", another.weakestLane(), 0);
        another.set(1, 13, 0);
        Sentence.same("30 at another bit", another.weakestLane(), 1);
    }

    private static void received(LinkTraining x, int tap, int... due) {
        x.set(0, tap, 0);
        for (int pattern = 0; pattern < due.length; pattern++) {
            Sentence.same("pattern " + pattern + " at tap " + tap + " and " + x.temperature(), x.receive(0, pattern),
                    due[pattern]);
        }
    }

    private static void receiving() {
        Sentence.of("receive: bit i of the result is bit (i + k) modulo n of the pattern, where n is the number of its bits, "
                + "bit 0 is its first digit (the modulo is never negative).");
        String bits = "pattern a 1;pattern b 10;pattern c 100;pattern d 1000000000000000;pattern e 110;pattern f 0;";
        LinkTraining x = Feed.loaded("link step 10 taps 128 vrefs 1;rate r period 100 jitter 0;"
                + "lane l skew 0 width 1000 vref 0 slope 0 drift 50;" + bits);
        x.train();
        Sentence.same("the trained bit", x.trainedBit(), 1);
        received(x, 10, 1, 1, 1, 1, 3, 0);
        received(x, 0, 1, 2, 2, 2, 6, 0);
        received(x, 20, 1, 2, 4, 32768, 5, 0);
        received(x, 30, 1, 1, 2, 16384, 6, 0);
        received(x, 40, 1, 2, 1, 8192, 3, 0);
        received(x, 127, 1, 1, 1, 16, 3, 0);
        x.setTemperature(1250);
        // Offset -525 at tap 10 and -595 at tap 3: k is -6 and -7.
        received(x, 10, 1, 1, 1, 64, 3, 0);
        received(x, 3, 1, 2, 2, 128, 6, 0);
        LinkTraining far = Feed.loaded("link step 50 taps 128 vrefs 1;rate r period 100 jitter 0;"
                + "lane l skew 4000 width 1000 vref 0 slope 0;lane m skew 0 width 1000 vref 0 slope 0 drift minus 50;"
                + bits);
        far.setTemperature(1250);
        far.train();
        Sentence.same("the trained bit", far.trainedBit(), 6);
        // Bits -40 and 24: k is -46 and 18.
        received(far, 0, 1, 1, 2, 16384, 6, 0);
        received(far, 127, 1, 1, 1, 16384, 3, 0);
        Sentence.same("16 ones", ones().receive(0, 0), 65535);
        Sentence.of("receive: NONE if the lane does not pass the pattern.");
        // Halves 10 (p) and 0 (q); phase 0 is at tap 5, 10 at tap 6.
        LinkTraining y = Feed.loaded("link step 10 taps 32 vrefs 1;rate r period 100 jitter 40;"
                + "lane l skew 50 width 1000 vref 0 slope 0;pattern p 0;pattern q 00;stress run 10 change 0;");
        y.train();
        received(y, 5, 0, 0);
        received(y, 6, 0, NONE);
        received(y, 4, 0, NONE);
        received(y, 7, NONE, NONE);
        received(y, 3, NONE, NONE);
    }

    private static LinkTraining ones() {
        LinkTraining x = Feed.loaded("link step 10 taps 32 vrefs 1;rate r period 100 jitter 0;"
                + "lane l skew 50 width 1000 vref 0 slope 0;pattern p 1111111111111111;");
        x.train();
        return x;
    }

    /** One lane of this drift, trained at a temperature, and its limits there. */
    private static void limits(String drift, int half, int from, int down, int up) {
        LinkTraining x = Feed.loaded("link step 1 taps 128 vrefs 1;rate r period 100 jitter " + (50 - half)
                + ";lane l skew 1000 width 1000 vref 0 slope 0 drift " + drift + ";pattern p 0;");
        x.setTemperature(from);
        x.train();
        String what = "drift " + drift + ", half " + half + " from " + from;
        int tap = x.setting(0, 0);
        x.set(0, tap - x.phase(0, tap), 0);
        Sentence.same(what + ", downwards", x.temperatureLimit(false), down);
        Sentence.same(what + ", upwards", x.temperatureLimit(true), up);
        Sentence.same(what + ", the temperature stays", x.temperature(), from);
        fails(x, up, 1251, 1);
        fails(x, down, -401, -1);
    }

    /** It holds at the limit and fails one beyond, if there is one. */
    private static void fails(LinkTraining x, int limit, int end, int step) {
        x.setTemperature(limit);
        Sentence.same("failing at " + limit, x.failing(), 0);
        Sentence.same("the limit from there", x.temperatureLimit(step > 0), limit);
        if (limit + step != end) {
            x.setTemperature(limit + step);
            Sentence.same("failing beyond " + limit, x.failing(), 1);
            Sentence.refuses("limit beyond " + limit, x, STATE, y -> y.temperatureLimit(true));
            Sentence.refuses("limit beyond " + limit, x, STATE, y -> y.temperatureLimit(false));
        }
    }

    private static void temperatures() {
        Sentence.of("temperatureLimit: the last temperature in this direction, -400 to 1250, for which failing() is 0 at it "
                + "and at all temperatures from the present one to it.");
        limits("0", 10, 0, -400, 1250);
        limits("0", 0, 1250, -400, 1250);
        limits("0", 0, -400, -400, 1250);
        limits("50", 10, 0, -21, 21);
        limits("minus 50", 10, 0, -21, 21);
        limits("50", 0, 0, -1, 1);
        limits("50", 0, 1, -1, 1);
        limits("50", 0, 100, 100, 101);
        limits("50", 0, 101, 100, 101);
        limits("50", 10, -390, -400, -370);
        limits("50", 10, -380, -400, -360);
        limits("50", 10, -379, -399, -358);
        limits("50", 10, 1230, 1210, 1250);
        limits("50", 10, 1229, 1208, 1249);
        limits("1", 10, -390, -400, 799);
        limits("1", 10, 1250, 200, 1250);
        limits("1", 0, 1250, 1200, 1250);
        limits("1", 0, 50, -99, 99);
        Sentence.of("failing() is not 0 where the bit is another one, though the lane works");
        // Every phase works with half 50; the bit changes where the phase would be 50 or -51.
        limits("50", 50, 0, -99, 101);
        limits("minus 50", 50, 0, -101, 99);
        Sentence.of("all lanes count");
        for (int drifting = 0; drifting < 3; drifting++) {
            StringBuilder text = new StringBuilder("link step 1 taps 128 vrefs 1;rate r period 100 jitter 40;pattern p 0;");
            for (int i = 0; i < 3; i++) {
                text.append("lane ").append((char) ('a' + i)).append(" skew 1060 width 1000 vref 0 slope 0 drift ")
                        .append(i == drifting ? 50 : 10 * i).append(';');
            }
            LinkTraining x = Feed.loaded(text.toString());
            x.train();
            Sentence.same("upwards, lane " + drifting, x.temperatureLimit(true), 21);
            Sentence.same("downwards, lane " + drifting, x.temperatureLimit(false), -21);
        }
    }

    /** How many calls more can be undone after a call: eight() itself makes two of them. */
    private static void undoes(String what, int added, ToIntFunction<LinkTraining> call) {
        LinkTraining x = eight();
        call.applyAsInt(x);
        Sentence.same("undo after " + what, x.undo(), 2 + added - 1);
    }

    private static void kept() {
        Sentence.of("Each successful load(), each call of setRate(), setTemperature(), train(), trainWithFallback() and "
                + "set(), and each call of retrain() that does not return NONE, can be undone, also if nothing changes");
        undoes("load", 1, x -> Feed.load(x, Links.TWO));
        undoes("a load that fails", 0, x -> Feed.load(x, "link"));
        undoes("setRate(0)", 1, x -> x.setRate(0));
        undoes("setTemperature(0)", 1, x -> x.setTemperature(0));
        undoes("train", 1, LinkTraining::train);
        undoes("trainWithFallback", 1, LinkTraining::trainWithFallback);
        undoes("set to the same", 1, x -> x.set(0, 4, 0));
        undoes("set where it does not work", 1, x -> x.set(0, 4, 1));
        undoes("retrain", 1, x -> x.retrain(0));
        undoes("writeSettings", 0, LinkTraining::writeSettings);
        undoes("append", 0, x -> x.append(0, 0, 0, 0, 0));
        undoes("truncate", 0, x -> (int) Look.cut(x, 0));
        undoes("find", 0, x -> x.find(0));
        undoes("temperatureLimit", 0, x -> x.temperatureLimit(true));
        undoes("scoreAt", 0, x -> x.scoreAt(0));
        undoes("fallbackFrom", 0, x -> x.fallbackFrom(0));
        undoes("scoreWithout", 0, x -> x.scoreWithout(0));
        undoes("greatestMargin", 0, LinkTraining::greatestMargin);
        undoes("an undo", -1, LinkTraining::undo);
        LinkTraining fails = Feed.loaded("link step 10 taps 32 vrefs 1;rate a period 100 jitter 51;"
                + "rate b period 100 jitter 51;lane l skew 50 width 1000 vref 0 slope 0;pattern p 0;fallback a to b;");
        fails.train();
        fails.trainWithFallback();
        Sentence.same("logSize", fails.logSize(), 3);
        Sentence.same("undo of a trainWithFallback that failed", fails.undo(), 2);
        Sentence.same("logSize", fails.logSize(), 1);
        Sentence.same("undo of a train that failed", fails.undo(), 1);
        Sentence.same("logSize", fails.logSize(), 0);
        Sentence.same("undo of load", fails.undo(), 0);
        Sentence.same("no lanes", fails.laneCount(), 0);

        Sentence.of("the last 8 are kept. undo: Returns how many calls can still be undone; IllegalStateException if there is "
                + "nothing to undo.");
        for (int calls = 0; calls <= 20; calls++) {
            LinkTraining x = new LinkTraining();
            for (int i = 1; i <= calls; i++) {
                x.setTemperature(i);
            }
            int kept = Math.min(calls, 8);
            for (int left = kept - 1; left >= 0; left--) {
                Sentence.same("undo after " + calls, x.undo(), left);
                Sentence.same("the temperature then", x.temperature(), calls - kept + left);
            }
            Sentence.refuses("undo of all " + calls, x, STATE, LinkTraining::undo);
            Sentence.same("the temperature stays", x.temperature(), calls - kept);
        }
        LinkTraining x = new LinkTraining();
        for (int i = 1; i <= 9; i++) {
            x.setTemperature(i);
        }
        x.undo();
        x.undo();
        x.undo();
        x.setTemperature(100);
        Sentence.same("9 calls, 3 undone, one more", x.undo(), 5);
        Sentence.same("the temperature then", x.temperature(), 6);
        for (int i = 0; i < 5; i++) {
            x.setTemperature(200 + i);
        }
        Sentence.same("filled again", x.undo(), 7);
        Sentence.same("the temperature then", x.temperature(), 203);
    }

    private static void restored() {
        Sentence.of("undo() restores everything except the two buffers and the parse error.");
        LinkTraining x = Feed.loaded(Links.DRIFT);
        x.setTemperature(-7);
        x.trainWithFallback();
        x.set(0, 3, 0);
        Feed.text(x, Links.TWO);
        String before = Look.at(x);
        Feed.text(x, Links.TWO);
        x.truncate(Links.TWO.length());
        Sentence.same("load of another link", x.load(), 2);
        x.setRate(1);
        x.setTemperature(1250);
        x.train();
        x.undo();
        x.undo();
        x.undo();
        Sentence.same("undo of the load", x.undo(), 4);
        Sentence.same("all of it", Look.at(x), before);
        Sentence.same("undo of set", x.undo(), 3);
        Sentence.same("the tap of the training", x.setting(0, 0), 10);
        Sentence.same("undo of trainWithFallback", x.undo(), 2);
        Sentence.same("the rate", x.rate(), 0);
        Sentence.same("the log", x.logSize(), 0);
        Sentence.same("not trained", x.isTrained(), false);
        Sentence.same("undo of setTemperature", x.undo(), 1);
        Sentence.same("the temperature", x.temperature(), 0);
        Sentence.same("undo of load", x.undo(), 0);
        Sentence.same("no link", Look.at(x), Look.at(new LinkTraining()));

        LinkTraining y = eight();
        y.set(7, 9, 0);
        int length = y.writeSettings();
        Feed.load(y, "link ?");
        Feed.text(y, "abc");
        y.undo();
        y.undo();
        y.undo();
        Sentence.same("the error stays", y.errorCode() + " " + y.errorPosition(), "1 5");
        Sentence.same("the output stays", y.outputByte(length - 4), (int) '9');
        Sentence.refuses("and no more", y, INDEX, z -> z.outputByte(length));
        Sentence.accepts("the input stays", y, z -> Look.cut(z, 3));
        Sentence.refuses("and no more", y, ARGUMENT, z -> Look.cut(z, 4));
        LinkTraining rated = Feed.loaded(Links.TWO);
        rated.train();
        rated.set(1, 7, 2);
        rated.setRate(1);
        Sentence.same("setRate ends the training", rated.isTrained(), false);
        rated.undo();
        Sentence.same("undo brings it back", rated.trainedBit() + " " + rated.setting(0, 0) + " " + rated.setting(1, 0)
                + "/" + rated.setting(1, 1), "0 5 7/2");
        rated.setRate(0);
        Sentence.same("setRate to the same rate, too", rated.isTrained(), false);
        String[] links = {Links.OPEN, Links.TWO, Links.TWO + "lane c skew 0 width 800 vref 0 slope 0;"};
        LinkTraining loads = new LinkTraining();
        for (int i = 0; i < 13; i++) {
            Sentence.same("load " + i, Feed.load(loads, links[i % 3]), 1 + i % 3);
        }
        for (int i = 11; i > 3; i--) {
            Sentence.same("undo of load " + (i + 1), loads.undo(), i - 4);
            Sentence.same("the lanes of load " + i, loads.laneCount(), 1 + i % 3);
        }
        Sentence.refuses("undo of load 4", loads, STATE, LinkTraining::undo);
    }

    private static void output() {
        Sentence.of("writeSettings: for each lane its name, a colon, its tap, a slash, its reference voltage, and a newline. "
                + "outputByte: if index is negative or not less than the output's length");
        StringBuilder text = new StringBuilder("link step 10 taps 128 vrefs 16;rate r period 100 jitter 0;pattern p 0;");
        StringBuilder due = new StringBuilder();
        String[] names = {"b", "cd", "efg", "hijk", "lmnop", "abcdef", "zzzzzz", "abcdeg"};
        int[][] settings = {{0, 0}, {9, 9}, {10, 10}, {99, 15}, {100, 0}, {127, 15}, {5, 1}, {127, 15}};
        for (int i = 0; i < 8; i++) {
            text.append("lane ").append(names[i]).append(" skew 0 width 1000 vref 0 slope 0;");
            due.append(names[i]).append(':').append(settings[i][0]).append('/').append(settings[i][1]).append('\n');
        }
        LinkTraining x = Feed.loaded(text.toString());
        Sentence.refuses("outputByte(0) of none", x, INDEX, y -> y.outputByte(0));
        Sentence.refuses("writeSettings without training", x, STATE, LinkTraining::writeSettings);
        x.train();
        for (int lane = 0; lane < 8; lane++) {
            x.set(lane, settings[lane][0], settings[lane][1]);
        }
        written(x, due.toString());
        x.set(7, 0, 0);
        Sentence.same("set writes nothing", x.outputByte(due.length() - 2), (int) '5');
        written(x, due.substring(0, due.length() - 7) + "0/0\n");
        x.setRate(0);
        Sentence.refuses("writeSettings without training", x, STATE, LinkTraining::writeSettings);
        Sentence.same("the output stays", x.outputByte(0), (int) 'b');
    }

    private static void written(LinkTraining x, String due) {
        Sentence.same("the output's length", x.writeSettings(), due.length());
        StringBuilder output = new StringBuilder();
        for (int i = 0; i < due.length(); i++) {
            output.append((char) x.outputByte(i));
        }
        Sentence.same("the output", output.toString(), due);
        for (int index : new int[] {-1, due.length(), Integer.MIN_VALUE, Integer.MAX_VALUE}) {
            Sentence.refuses("outputByte(" + index + ")", x, INDEX, y -> y.outputByte(index));
        }
    }

    public static void main(String[] args) {
        settings();
        failures();
        receiving();
        temperatures();
        kept();
        restored();
        output();
        Sentence.end();
    }
}
