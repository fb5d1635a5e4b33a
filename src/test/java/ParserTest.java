/** Promises 4 to 6: what load() takes and refuses. In a text that is refused a bar stands before the wrong token. */
public final class ParserTest {
    private static final String LINK = Links.LINK;
    private static final String RATE = Links.RATE;
    private static final String LANE = Links.LANE;
    private static final String PATTERN = Links.PATTERN;
    private static final String ALL = LINK + RATE + LANE + PATTERN;

    private ParserTest() { }

    private static LinkTraining refused(String marked, int code) {
        LinkTraining x = new LinkTraining();
        String text = marked.replace("|", "");
        Check.same(4, "load of " + marked, Feed.load(x, text), LinkTraining.PARSE_ERROR);
        Check.same(5, "errorCode of " + marked, x.errorCode(), code);
        Check.same(6, "errorPosition of " + marked, x.errorPosition(), marked.indexOf('|'));
        Check.same(8, "rateCount after " + marked, x.rateCount(), 0);
        return x;
    }

    private static LinkTraining taken(String text, int lanes) {
        LinkTraining x = new LinkTraining();
        Check.same(4, "load of " + text, Feed.load(x, text), lanes);
        Check.same(5, "errorCode of " + text, x.errorCode(), 0);
        Check.same(6, "errorPosition of " + text, x.errorPosition(), LinkTraining.NONE);
        return x;
    }

    private static void theEnd() {
        refused("|", 1);
        refused(" \n  |", 1);
        refused("link step 10|", 1);
        refused("link step 10 taps 32 vrefs 3  |", 1);
        refused(LINK + RATE + LANE + "pattern p 01 |", 1);
        refused(ALL + "fallback r to r|", 1);
        refused(LINK + "|", 5);
        refused(LINK + " \n |", 5);
        refused(LINK + RATE + LANE + "|", 5);
        refused(LINK + RATE + PATTERN + "|", 5);
        refused(LINK + LANE + PATTERN + " |", 5);
        taken(ALL, 1);
        taken("\n " + ALL + " \n", 1);
    }

    private static void theLink() {
        refused("|" + RATE, 1);
        refused("|;", 1);
        refused("|Link step", 1);
        refused("|links step", 1);
        refused(ALL + "|link step 10 taps 32 vrefs 3;", 1);
        refused("link |taps", 1);
        refused("link step |x", 1);
        refused("link step |0 taps", 2);
        refused("link step |51 taps", 2);
        refused("link step |99999999999999999999999999 taps", 2);
        refused("link step |4294967297 taps", 2);
        refused("link step 1 taps |3 vrefs", 2);
        refused("link step 50 taps |129 vrefs", 2);
        refused("link step 50 taps 4 vrefs |0;", 2);
        refused("link step 50 taps 128 vrefs |17;", 2);
        refused("link step |-1 taps", 1);
        refused("link step 10 taps 32 vrefs 3|,", 1);
        refused("link step 10 |\t taps 32 vrefs 3;", 1);
        refused("link step 10|\r\n", 1);
        refused("link step 10|\u00ff", 1);
        refused("link step 10|\0", 1);
        taken("link step 1 taps 4 vrefs 1;" + RATE + LANE + PATTERN, 1);
        taken("link step 50 taps 128 vrefs 16;" + RATE + LANE + PATTERN, 1);
        taken("link\nstep10taps32vrefs3 ;\n" + RATE + LANE + PATTERN, 1);
        Check.same(17, "offset with step 0010", taken("link step 0000000000000000010 taps 9 vrefs 1;" + RATE + LANE
                + PATTERN, 1).offset(0, 8), 80);
    }

    private static void things() {
        refused(LINK + "rate r period |99 jitter 0;", 2);
        refused(LINK + "rate r period |2001 jitter 0;", 2);
        refused(LINK + "rate r period 100 jitter |201;", 2);
        refused(LINK + "rate r |jitter 0;", 1);
        refused(LINK + RATE + "rate |r period 100 jitter 0;", 3);
        refused(LINK + "lane l skew |4001 width", 2);
        refused(LINK + "lane l skew 4000 width |0", 2);
        refused(LINK + "lane l skew 4000 width |1001", 2);
        refused(LINK + "lane l skew 0 width 1 vref |3 slope", 2);
        refused(LINK + "lane l skew 0 width 1 vref 2 slope |201;", 2);
        refused(LINK + "lane l skew 0 width 1 vref 2 slope 200 drift |51;", 2);
        refused(LINK + "lane l skew 0 width 1 vref 2 slope 200 drift minus |51;", 2);
        refused(LINK + "lane l skew 0 width 1 vref 2 slope 200 drift minus |minus 1;", 1);
        refused(LINK + "lane l skew 0 width 1 vref 2 slope 200 drift |;", 1);
        refused(LINK + "lane l skew 0 width 1 vref 2 slope 200 |minus 1;", 1);
        refused(LINK + "lane l skew |minus 1 width", 1);
        refused(LINK + LANE + "lane |l skew 0", 3);
        taken(LINK + RATE + PATTERN + "lane l skew 4000 width 1000 vref 2 slope 200 drift minus 50;", 1);
        taken(LINK + "rate r period 2000 jitter 200;" + PATTERN + "lane l skew 0 width 1 vref 0 slope 0 drift 0;", 1);
        taken(LINK + RATE + PATTERN + "lane l skew 0 width 1 vref 0 slope 0 drift minus 0;", 1);
        refused(LINK + "pattern p |2;", 1);
        refused(LINK + "pattern p |012;", 1);
        refused(LINK + "pattern p |a;", 1);
        refused(LINK + "pattern p |;", 1);
        refused(LINK + "pattern p |01010101010101010;", 1);
        refused(LINK + "pattern p 01 |01;", 1);
        refused(LINK + PATTERN + "pattern |p 1;", 3);
        Check.same(13, "longestRun of 16 digits",
                taken(LINK + RATE + LANE + "pattern p 0101010101010101;", 1).longestRun(0), 1);
        refused(ALL + "|step 1;", 1);
        refused(ALL + "|;", 1);
        refused(ALL + "|tap;", 1);
        refused(ALL + "|7;", 1);
    }

    private static void names() {
        for (String keyword : Links.KEYWORDS) {
            refused(LINK + "rate |" + keyword + " period 100 jitter 0;", 1);
            refused(ALL + "lane |" + keyword + " skew 0", 1);
            refused(ALL + "fallback |" + keyword + " to r;", 1);
        }
        refused(LINK + "rate |abcdefg period 100 jitter 0;", 1);
        refused(LINK + "rate |7 period 100 jitter 0;", 1);
        refused(LINK + "rate |; period 100 jitter 0;", 1);
        refused(LINK + "rate f|1 period 100 jitter 0;", 1);
        for (String name : new String[] {"abcdef", "a", "az", "zebra", "tap", "rates", "volt", "n", "is", "name", "toto", "t"}) {
            taken(LINK + LANE + PATTERN + "rate " + name + " period 100 jitter 0;", 1);
        }
        taken(LINK + "rate x period 100 jitter 0;lane x skew 0 width 800 vref 0 slope 0;pattern x 01;", 1);
    }

    private static String many(String start, String end, int count) {
        StringBuilder text = new StringBuilder();
        for (int i = 0; i < count; i++) {
            text.append(start).append((char) ('a' + i)).append(end);
        }
        return text.toString();
    }

    private static void limits() {
        String rates = many("rate ", " period 100 jitter 0;", 4);
        String lanes = many("lane ", " skew 0 width 800 vref 0 slope 0;", 8);
        String patterns = many("pattern ", " 01;", 6);
        LinkTraining x = taken(LINK + rates + lanes + patterns, 8);
        Check.same(8, "rateCount", x.rateCount(), 4);
        Check.same(9, "laneCount", x.laneCount(), 8);
        Check.same(10, "patternCount", x.patternCount(), 6);
        refused(LINK + rates + "|rate e", 4);
        refused(LINK + lanes + "|lane i", 4);
        refused(LINK + patterns + "|pattern", 4);
        refused(LINK + "stress run 1 change 1;|stress run 1 change 1;", 4);
        refused(LINK + "margin time 1 volts 1;" + PATTERN + "|margin", 4);
        refused(LINK + "stress run |51 change 1;", 2);
        refused(LINK + "stress run 50 change |51;", 2);
        refused(LINK + "stress |change 1 run 1;", 1);
        refused(LINK + "margin time |501 volts 1;", 2);
        refused(LINK + "margin time 500 volts |9;", 2);
        taken(ALL + "stress run 50 change 50;margin time 500 volts 8;", 1);
        taken(LINK + "margin time 0 volts 0;stress run 0 change 0;" + RATE + LANE + PATTERN, 1);
    }

    private static void fallbacks() {
        String two = RATE + "rate s period 200 jitter 0;";
        refused(LINK + "fallback |r to s;", 3);
        refused(LINK + RATE + "fallback r to |s;", 3);
        refused(LINK + RATE + "fallback |s to r;", 3);
        refused(LINK + two + "fallback r to s;fallback |r to r;", 3);
        refused(LINK + two + "fallback |abcdefg to s;", 1);
        refused(LINK + two + "fallback r |s;", 1);
        refused(LINK + two + "fallback r to |7;", 1);
        refused(LINK + LANE + "fallback |l to l;", 3);
        LinkTraining x = taken(LINK + two + LANE + PATTERN + "fallback r to r;fallback s to r;", 1);
        Check.same(41, "fallbackFrom(1)", x.fallbackFrom(1), 1);
    }

    private static void theFirstErrorCounts() {
        refused("link step |0 taps 0 vrefs 0;", 2);
        refused(LINK + "rate |rate period 1 jitter 999;", 1);
        refused(LINK + RATE + "rate |r period 1 jitter 999;", 3);
    }

    public static void main(String[] args) {
        theEnd();
        theLink();
        things();
        names();
        limits();
        fallbacks();
        theFirstErrorCounts();
        Check.end(false);
    }
}
