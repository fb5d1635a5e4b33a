import com.sun.management.ThreadMXBean;
import java.lang.management.ManagementFactory;

/** "An object is used for at most 512 calls after it has been made": to the last of them, and in a room that is small. */
public final class RoomTest {
    private static final int CALLS = 512;
    // Far below a room of 600,000 objects and 7.3 million fields, of eight bytes and more each.
    private static final long MOST_BYTES = 2_000_000;

    private RoomTest() { }

    private interface Run {
        void on(LinkTraining x, int call);
    }

    private static long made() {
        return ((ThreadMXBean) ManagementFactory.getThreadMXBean()).getCurrentThreadAllocatedBytes();
    }

    /** All that a text may hold. */
    private static String large() {
        StringBuilder text = new StringBuilder("link step 10 taps 128 vrefs 16;");
        for (int i = 0; i < 4; i++) {
            text.append("rate ").append((char) ('a' + i)).append(" period 100 jitter ").append(i < 3 ? 99 : 0).append(';');
        }
        for (int i = 0; i < 8; i++) {
            text.append("lane ").append((char) ('a' + i)).append(" skew 50 width 1000 vref 0 slope 0 drift 50;");
        }
        for (int i = 0; i < 6; i++) {
            text.append("pattern ").append((char) ('a' + i)).append(" 0101;");
        }
        return text.append("fallback a to b;fallback b to c;fallback c to d;").toString();
    }

    private static void holds(String what, boolean isTrained, Run run) {
        LinkTraining x = Feed.loaded(large());
        if (isTrained) {
            x.trainWithFallback();
        }
        long before = made();
        for (int call = 0; call < CALLS; call++) {
            run.on(x, call);
        }
        long bytes = made() - before;
        Sentence.same("the room of 512 calls, " + what + ": " + bytes + " bytes, is small", bytes < MOST_BYTES, true);
    }

    private static void room() {
        Sentence.of("512 calls of any kind need a small room");
        holds("append", false, (x, i) -> {
            if (i % 71 == 70) {
                x.load();
            } else {
                x.append(0x3B3B3B3B, i, i, i, i);
            }
        });
        holds("load", false, (x, i) -> x.load());
        holds("find", false, (x, i) -> x.find(i % 3));
        holds("set and undo", true, (x, i) -> {
            if (i % 2 == 0) {
                x.set(0, i % 128, i % 16);
            } else {
                x.undo();
            }
        });
        holds("train", true, (x, i) -> x.train());
        holds("trainWithFallback", false, (x, i) -> x.trainWithFallback());
        holds("setTemperature", true, (x, i) -> x.setTemperature(i));
        holds("edgeTests", true, (x, i) -> x.edgeTests(i % 8, i % 128, i % 16));
        holds("eye", true, (x, i) -> x.eye(i % 8, i % 16, 0, 0));
        holds("scoreWithout", true, (x, i) -> x.scoreWithout(i % 6));
        holds("sharedVref", true, (x, i) -> x.sharedVref(0));
        holds("greatestMargin", true, (x, i) -> x.greatestMargin());
        holds("fastestRate", true, (x, i) -> x.fastestRate());
        holds("temperatureLimit", true, (x, i) -> x.temperatureLimit(i % 2 == 0));
        holds("writeSettings", true, (x, i) -> x.writeSettings());
    }

    private static void lastCall() {
        Sentence.of("the 512th call is answered as the first one is");
        LinkTraining x = new LinkTraining();
        for (int i = 1; i < CALLS; i++) {
            x.setTemperature(i);
        }
        Sentence.same("undo", x.undo(), 7);
        LinkTraining y = Feed.loaded(Links.TWO);
        int calls = (Links.TWO.length() + 19) / 20 + 2;
        for (int i = calls; i < CALLS - 2; i++) {
            Sentence.same("train", y.train(), 30);
        }
        Sentence.same("call 511", y.logSize(), 30);
        Sentence.same("call 512", y.setting(1, 0), 15);
    }

    public static void main(String[] args) {
        room();
        lastCall();
        Sentence.end();
    }
}
