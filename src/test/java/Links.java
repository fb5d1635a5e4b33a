/** Texts of links that several tests use. */
final class Links {
    /** The least that a text may hold, a statement each. */
    static final String LINK = "link step 10 taps 32 vrefs 3;";
    static final String RATE = "rate r period 100 jitter 0;";
    static final String LANE = "lane l skew 0 width 800 vref 0 slope 0;";
    static final String PATTERN = "pattern p 01;";
    static final String[] KEYWORDS = {"link", "step", "taps", "vrefs", "rate", "period", "jitter", "lane",
        "skew", "width", "vref", "slope", "drift", "minus", "pattern", "stress", "run", "change", "margin", "time",
        "volts", "fallback", "to"};

    /** Eyes of 7 taps at the best voltage (half 35), of 5 at the others (half 25); lane b is one bit later. */
    static final String TWO = "link step 10 taps 32 vrefs 3;rate f period 100 jitter 5;rate s period 200 jitter 5;"
            + "lane a skew 50 width 800 vref 1 slope 10;lane b skew 150 width 800 vref 1 slope 10;"
            + "pattern p 01;fallback f to s;";

    /** Works everywhere: the eyes touch, a new bit every ten taps from tap 0 on. */
    static final String OPEN = "link step 10 taps 32 vrefs 3;rate f period 100 jitter 0;"
            + "lane a skew 50 width 1000 vref 1 slope 0;pattern p 01;";

    /** Rate f cannot be trained; rate s can, with halves 91 (p) and 100 (q). */
    static final String DRIFT = "link step 10 taps 32 vrefs 1;rate f period 100 jitter 60;rate s period 400 jitter 0;"
            + "lane a skew 100 width 500 vref 0 slope 0 drift minus 10;pattern p 0011;pattern q 1;"
            + "stress run 5 change 2;margin time 20 volts 0;fallback f to s;fallback s to f;";

    private Links() { }

    /** One lane that works everywhere without stress, and patterns a, b, .. of these bits. */
    static LinkTraining ofPatterns(String stress, String... bits) {
        StringBuilder text = new StringBuilder("link step 1 taps 4 vrefs 1;rate r period 100 jitter 0;"
                + "lane l skew 0 width 1000 vref 0 slope 0;").append(stress);
        for (int i = 0; i < bits.length; i++) {
            text.append("pattern ").append((char) ('a' + i)).append(' ').append(bits[i]).append(';');
        }
        return Feed.loaded(text.toString());
    }
}
