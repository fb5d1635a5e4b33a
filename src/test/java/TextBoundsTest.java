import java.util.function.ToIntFunction;

/** Section 1 of the document, sentence by sentence: the input buffer, tokens, names, ranges, counts and errors. */
public final class TextBoundsTest {
    private static final Class<IllegalStateException> STATE = IllegalStateException.class;
    private static final Class<IllegalArgumentException> ARGUMENT = IllegalArgumentException.class;
    private static final int NONE = LinkTraining.NONE;
    private static final int SPACES = 0x20202020;

    private static final String LINK = Links.LINK;
    private static final String RATE = Links.RATE;
    private static final String LANE = Links.LANE;
    private static final String PATTERN = Links.PATTERN;
    private static final String ALL = LINK + RATE + LANE + PATTERN;

    private TextBoundsTest() { }

    private static LinkTraining filled(int length) {
        LinkTraining x = new LinkTraining();
        while (x.append(SPACES, SPACES, SPACES, SPACES, SPACES) < length) {
            continue;
        }
        x.truncate(length);
        return x;
    }

    private static int spaces(LinkTraining x) {
        return x.append(SPACES, SPACES, SPACES, SPACES, SPACES);
    }

    private static void theBuffer() {
        Sentence.of("The input buffer holds at most 1400 bytes.");
        LinkTraining x = new LinkTraining();
        for (int i = 1; i <= 70; i++) {
            Sentence.same("append " + i, spaces(x), 20 * i);
        }
        Sentence.refuses("append 71", x, STATE, TextBoundsTest::spaces);
        Sentence.refuses("truncate(1401)", x, ARGUMENT, y -> Look.cut(y, 1401));
        Sentence.accepts("truncate(1400)", x, y -> Look.cut(y, 1400));
        for (int length : new int[] {1379, 1380}) {
            Sentence.same("append at " + length, spaces(filled(length)), length + 20);
        }
        for (int length : new int[] {1381, 1399, 1400}) {
            LinkTraining full = filled(length);
            Sentence.refuses("append at " + length, full, STATE, TextBoundsTest::spaces);
            Sentence.refuses("the refused bytes are not there", full, ARGUMENT, y -> Look.cut(y, length + 1));
            Sentence.accepts("the others are", full, y -> Look.cut(y, length));
        }
        Sentence.takesText(ALL + " ".repeat(1400 - ALL.length()));
        Sentence.refusesText(ALL + " ".repeat(1399 - ALL.length()) + "|?", 1);
        Sentence.refusesText(ALL + " ".repeat(1396 - ALL.length()) + "rate|", 1);

        Sentence.of("append: the four bytes of each parameter, most significant byte first.");
        for (int at = 0; at < 20; at++) {
            int[] words = {SPACES, SPACES, SPACES, SPACES, SPACES};
            int shift = 24 - at % 4 * 8;
            words[at / 4] = SPACES & ~(255 << shift) | 200 << shift;
            LinkTraining one = new LinkTraining();
            one.append(words[0], words[1], words[2], words[3], words[4]);
            one.load();
            Sentence.same("the wrong byte's place", one.errorPosition(), at);
        }

        Sentence.of("truncate: length: the new length, 0 to the current length.");
        LinkTraining y = filled(20);
        for (int length : new int[] {21, -1, Integer.MAX_VALUE, Integer.MIN_VALUE}) {
            Sentence.refuses("truncate(" + length + ") of 20", y, ARGUMENT, z -> Look.cut(z, length));
        }
        Sentence.accepts("truncate(20) of 20", y, z -> Look.cut(z, 20));
        Sentence.accepts("truncate(0) of 20", y, z -> Look.cut(z, 0));
        Sentence.refuses("truncate(1) of 0", y, ARGUMENT, z -> Look.cut(z, 1));
        Sentence.accepts("truncate(0) of 0", y, z -> Look.cut(z, 0));
        Sentence.same("append after it", spaces(y), 20);
        LinkTraining first = new LinkTraining();
        Feed.text(first, ALL + "rubbish");
        first.truncate(ALL.length());
        Sentence.same("the first bytes are those that stay", first.load(), 1);
    }

    private static void statements() {
        Sentence.of("load() parses it as a text of one or more statements; each statement ends with ';'.");
        Sentence.refusesText("|", 1);
        Sentence.refusesText(" |", 1);
        Sentence.refusesText("\n|", 1);
        Sentence.refusesText("|;", 1);
        String[] each = {RATE, LANE, PATTERN, "stress run 1 change 1;", "margin time 1 volts 1;", "fallback r to r;"};
        Sentence.refusesText(LINK.substring(0, LINK.length() - 1) + "|", 1);
        for (String statement : each) {
            String before = statement.startsWith("fallback") ? ALL : LINK;
            String open = statement.substring(0, statement.length() - 1);
            Sentence.refusesText(before + open + "|", 1);
            Sentence.refusesText(before + open + "|,", 1);
            Sentence.refusesText(before + open + " |stress", 1);
            Sentence.refusesText(before + statement + "|;", 1);
        }
        Sentence.takesText(ALL + each[3] + each[4] + each[5]);
    }

    /** The text with this byte at the bar. */
    private static void theByte(String marked, int b, boolean isTaken, int errorAt) {
        int at = marked.indexOf('|');
        String text = marked.substring(0, at) + (char) b + marked.substring(at + 1);
        if (isTaken) {
            Sentence.takesText(text);
        } else {
            Sentence.refusesText(text.substring(0, errorAt) + "|" + text.substring(errorAt), 1);
        }
    }

    private static void tokens() {
        Sentence.of("A word is a maximal run of lowercase letters a-z; a number is a maximal run of decimal digits; "
                + "each other byte except space (32) and newline (10) is a symbol of its own.");
        String rest = " step 10 taps 32 vrefs 3;" + RATE + LANE + PATTERN;
        for (int b = 0; b < 256; b++) {
            boolean separates = b == 32 || b == 10;
            boolean isLetter = b >= 97 && b <= 122;
            boolean isDigit = b >= 48 && b <= 57;
            theByte("link|" + rest, b, separates, isLetter ? 0 : 4);
            theByte("link step 1| taps 32 vrefs 3;" + RATE + LANE + PATTERN, b, separates || isDigit, 11);
            theByte("|" + ALL, b, separates, 0);
            theByte(ALL + "|", b, separates, ALL.length());
            theByte(ALL + "|;", b, false, separates ? ALL.length() + 1 : ALL.length());
            theByte(LINK + "rate |period 100 jitter 0;", b, false, separates ? LINK.length() + 6 : LINK.length() + 5);
        }
        Sentence.takesText("link step10taps32vrefs3;rate r period100jitter0;lane l skew0width800vref0slope0;"
                + "pattern p01;");
        Sentence.refusesText("|linkstep 10", 1);
        Sentence.refusesText("link |steptaps 10", 1);

        Sentence.of("Spaces and newlines only separate tokens.");
        Sentence.takesText("  \n\n " + ALL.replace(" ", " \n  \n").replace(";", "\n ; ") + "\n  \n");
        Sentence.refusesText("|li nk step 10", 1);
        Sentence.refusesText("link step 1 |0 taps 32", 1);
        Sentence.refusesText(LINK + "pattern p 0 |1;", 1);
    }

    private static void names() {
        Sentence.of("NAME is a word of 1 to 6 letters that is not a keyword; the keywords are all other words that are "
                + "written below in lowercase letters.");
        String[][] places = {{LINK + "rate ", " period 100 jitter 0;"},
            {LINK + "lane ", " skew 0 width 800 vref 0 slope 0;"}, {LINK + "pattern ", " 01;"},
            {ALL + "fallback ", " to r;"}, {ALL + "fallback r to ", ";"}};
        String[] wrong = {"abcdefg", "abcdefghijklmnopqrstuvwxyz", "7", "A", "_", "-", ";", "\u00e9", "A a"};
        for (String[] place : places) {
            for (String keyword : Links.KEYWORDS) {
                Sentence.refusesText(place[0] + "|" + keyword + place[1], 1);
            }
            for (String name : wrong) {
                Sentence.refusesText(place[0] + "|" + name + place[1], 1);
            }
            Sentence.refusesText(place[0] + "|", 1);
        }
        String[] right = {"z", "ab", "abc", "abcd", "abcde", "abcdef", "zzzzzz", "too", "tos", "t", "o", "lin", "links",
            "ink", "rates", "ate", "lanes", "vre", "runs", "ru", "tap", "times", "tim", "volt", "slop", "perio", "patter",
            "stres", "a", "is", "the", "of", "ps", "must", "be", "name", "n"};
        for (String name : right) {
            String[] kinds = {RATE.replace(" r ", " " + name + " "), LANE.replace(" l ", " " + name + " "),
                PATTERN.replace(" p ", " " + name + " ")};
            LinkTraining x = Sentence.takesText(LINK + kinds[0] + kinds[1] + kinds[2] + "fallback " + name + " to "
                    + name + ";");
            for (int kind = 0; kind < 3; kind++) {
                Feed.text(x, name);
                Sentence.same("find of " + name, x.find(kind), 0);
            }
        }

        Sentence.of("{ } means any number of repetitions, [ ] that something may be left out.");
        Sentence.takesText(ALL.replace("slope 0;", "slope 0 drift minus 0;"));
        Sentence.takesText(ALL.replace("slope 0;", "slope 0 drift 0;"));
        Sentence.refusesText(LINK + "lane l skew 0 width 800 vref 0 slope 0 |minus 0;", 1);
        Sentence.refusesText(LINK + "lane l skew 0 width 800 vref 0 slope 0 drift |;", 1);
        Sentence.refusesText(LINK + "lane l skew 0 width 800 vref 0 slope 0 drift minus |;", 1);
        Sentence.refusesText(LINK + "lane l skew 0 width 800 vref 0 slope 0 drift minus |minus 1;", 1);
        Sentence.refusesText(LINK + "lane l skew 0 width 800 vref 0 slope 0 drift 1 |drift 1;", 1);
    }

    /** Both ends of a range and beyond them; the number stands for '#'. */
    private static void range(String template, int low, int high) {
        int at = template.indexOf('#');
        String before = template.substring(0, at);
        String after = template.substring(at + 1);
        for (String n : new String[] {"" + low, "" + high, "0" + low, "0".repeat(300) + high}) {
            Sentence.takesText(before + n + after);
        }
        String[] beyond = {"" + (high + 1), "0" + (high + 1), "10000", "1000000", "1000001", "2147483648",
            "" + (4294967296L + low), "18446744073709551616", "9".repeat(300)};
        for (String n : beyond) {
            Sentence.refusesText(before + "|" + n + after, 2);
        }
        if (low > 0) {
            Sentence.refusesText(before + "|" + (low - 1) + after, 2);
            Sentence.refusesText(before + "|0" + after, 2);
            Sentence.refusesText(before + "|0000" + after, 2);
        }
        for (String other : new String[] {"-1", "+1", "x", "to", ".", "A"}) {
            Sentence.refusesText(before + "|" + other + after, 1);
        }
        Sentence.refusesText(before + (after.startsWith(" ") ? " |" + after.substring(1) : "|" + after), 1);
        Sentence.refusesText(before + "|", 1);
    }

    /** The range, and what its ends are taken for. */
    private static void range(String template, int low, int high, ToIntFunction<LinkTraining> value) {
        range(template, low, high);
        for (String n : new String[] {"" + low, "" + high, "000" + low, "0".repeat(300) + high}) {
            Sentence.same("what " + n + " is taken for in " + template,
                    value.applyAsInt(Feed.loaded(template.replace("#", n))), Integer.parseInt(n));
        }
    }

    private static int accepted(LinkTraining x, Check.Call... calls) {
        int count = 0;
        for (Check.Call call : calls) {
            count += Check.answer(x, call) instanceof String ? 0 : 1;
        }
        return count;
    }

    private static int countUp(LinkTraining x, java.util.function.IntFunction<Check.Call> calls) {
        int count = 0;
        while (count < 200 && accepted(x, calls.apply(count)) == 1) {
            count++;
        }
        return count;
    }

    private static int bestVoltage(LinkTraining x) {
        int best = 0;
        for (int v = 0; v < 16; v++) {
            best = x.half(0, v, 0) > x.half(0, best, 0) ? v : best;
        }
        return best;
    }

    private static int driftAt100(LinkTraining x) {
        int before = x.offset(0, 0);
        x.setTemperature(100);
        return before - x.offset(0, 0);
    }

    private static void ranges() {
        String wide = "rate r period 2000 jitter 0;";
        Sentence.of("a tap is N ps (1 to 50)");
        range("link step # taps 4 vrefs 1;" + RATE + LANE + PATTERN, 1, 50, x -> x.offset(0, 1) - x.offset(0, 0));
        Sentence.of("the number of delay taps, 4 to 128 (numbered from 0)");
        range("link step 1 taps # vrefs 1;" + RATE + LANE + PATTERN, 4, 128,
                x -> countUp(x, tap -> y -> y.offset(0, tap)));
        Sentence.of("the number of reference voltages, 1 to 16 (numbered from 0)");
        range("link step 1 taps 4 vrefs #;" + RATE + LANE + PATTERN, 1, 16,
                x -> countUp(x, vref -> y -> y.half(0, vref, 0)));
        Sentence.of("a rate: its bit period, 100 to 2000 ps");
        range(LINK + "rate r period # jitter 0;" + LANE.replace("800", "1000") + PATTERN, 100, 2000,
                x -> 2 * x.half(0, 0, 0));
        Sentence.of("and its jitter, 0 to 200 ps");
        range(LINK + "rate r period 2000 jitter #;" + LANE.replace("800", "1000") + PATTERN, 0, 200,
                x -> 1000 - x.half(0, 0, 0));
        Sentence.of("a lane: its skew, 0 to 4000 ps");
        range(LINK + RATE + "lane l skew # width 800 vref 0 slope 0;" + PATTERN, 0, 4000, x -> -x.offset(0, 0));
        Sentence.of("its width, 1 to 1000");
        range(LINK + wide + "lane l skew 0 width # vref 0 slope 0;" + PATTERN, 1, 1000, x -> x.half(0, 0, 0));
        Sentence.of("its best reference voltage, 0 to the number of reference voltages minus 1");
        range(LINK.replace("vrefs 3", "vrefs 16") + RATE + "lane l skew 0 width 800 vref # slope 1;" + PATTERN, 0, 15,
                TextBoundsTest::bestVoltage);
        for (int vrefs = 1; vrefs <= 16; vrefs++) {
            String link = LINK.replace("vrefs 3", "vrefs " + vrefs) + RATE + PATTERN;
            Sentence.takesText(link + LANE.replace("vref 0", "vref " + (vrefs - 1)));
            Sentence.refusesText(link + "lane l skew 0 width 800 vref |" + vrefs + " slope 0;", 2);
        }
        Sentence.of("its slope, 0 to 200 ps");
        range(LINK + RATE + "lane l skew 0 width 800 vref 0 slope #;" + PATTERN, 0, 200,
                x -> x.half(0, 0, 0) - x.half(0, 1, 0));
        Sentence.of("its drift, 0 to 50 (negative with minus; without drift 0)");
        String lane = "lane l skew 100 width 800 vref 0 slope 0";
        range(LINK + RATE + PATTERN + lane + " drift #;", 0, 50, TextBoundsTest::driftAt100);
        range(LINK + RATE + PATTERN + lane + " drift minus #;", 0, 50, x -> -driftAt100(x));
        Sentence.same("without drift", driftAt100(Feed.loaded(LINK + RATE + PATTERN + lane + ";")), 0);
    }

    private static void patterns() {
        Sentence.of("a test pattern: its bits, 1 to 16 digits that are all 0 or 1");
        for (int length = 1; length <= 16; length++) {
            for (String bits : new String[] {"0".repeat(length), "1".repeat(length)}) {
                LinkTraining x = Sentence.takesText(LINK + RATE + LANE + "pattern p " + bits + ";");
                Sentence.same("the length of " + bits, x.longestRun(0), length);
            }
        }
        String[] wrong = {"0".repeat(17), "1".repeat(17), "01".repeat(200), "2", "02", "20", "0000000000000002",
            "9", "10101012", "a", ";", "-", "A", "minus 1"};
        for (String bits : wrong) {
            Sentence.refusesText(LINK + RATE + LANE + "pattern p |" + bits + ";", 1);
        }
        Sentence.refusesText(LINK + RATE + LANE + "pattern p |;", 1);
        Sentence.refusesText(LINK + RATE + LANE + "pattern p |", 1);
    }

    private static void stressAndMargin() {
        Sentence.of("stress: 0 to 50 each");
        String link = LINK + RATE + LANE + "pattern a 0011;pattern b 01;";
        range(link + "stress run # change 0;", 0, 50, x -> x.penalty(0));
        range(link + "stress run 0 change #;", 0, 50, x -> x.penalty(1) / 2);
        Sentence.of("both are 0 without this statement (stress)");
        LinkTraining plain = Feed.loaded(link);
        Sentence.same("penalty of 0011", plain.penalty(0), 0);
        Sentence.same("penalty of 01", plain.penalty(1), 0);

        Sentence.of("margin: 0 to 500 ps and 0 to 8 steps");
        range(ALL + "margin time # volts 0;", 0, 500);
        range(ALL + "margin time 0 volts #;", 0, 8);
        // Eyes of taps 0 to 20 with the greatest time margin 500, 0 to 124 with 496, and of one tap with 0.
        String lane = " vrefs 1;lane l skew 500 width 1000 vref 0 slope 0;pattern p 01;";
        String to500 = "link step 50 taps 21" + lane + "rate r period 2000 jitter 0;margin volts;";
        String to496 = "link step 8 taps 125" + lane + "rate r period 2000 jitter 0;margin volts;";
        String to0 = "link step 50 taps 128" + lane + "rate r period 100 jitter 50;margin volts;";
        time(to500, 500, 25);
        time(to496, 500, NONE);
        time(to496, 497, NONE);
        time(to496, 496, 24);
        time(to0, 1, NONE);
        time(to0, 0, 0);
        // With an odd number of voltages the middle one has the greatest voltage margin; 7 is the greatest of all.
        volts(1, 0, true);
        volts(1, 1, false);
        volts(15, 7, true);
        volts(15, 8, false);
        volts(16, 7, true);
        volts(16, 8, false);
        Sentence.of("both are 0 without this statement (margin)");
        LinkTraining point = Feed.loaded(to0.replace("margin volts;", ""));
        Sentence.same("without the statement", point.train(), 0);
        Sentence.same("its time margin", point.timeMargin(0, 10, 0), 0);
        Sentence.same("its voltage margin", point.voltageMargin(0, 10, 0), 0);
    }

    private static void time(String text, int needed, int due) {
        LinkTraining x = Feed.loaded(text.replace("margin", "margin time " + needed).replace("volts", "volts 0"));
        Sentence.same("time " + needed + " in " + text, x.train(), due);
    }

    private static void volts(int vrefs, int needed, boolean isGood) {
        LinkTraining x = Feed.loaded(ALL.replace("vrefs 3", "vrefs " + vrefs) + "margin time 0 volts " + needed + ";");
        Sentence.same("volts " + needed + " of " + vrefs, x.bestVref(0, 0) != NONE, isGood);
    }

    private static String many(String template, int count) {
        StringBuilder text = new StringBuilder();
        for (int i = 0; i < count; i++) {
            text.append(template.replace("#", "" + (char) ('a' + i)));
        }
        return text.toString();
    }

    /** The things of one kind: one to the most are taken, none and one more are not. */
    private static void count(String others, String template, int most, int kind) {
        String word = template.substring(0, template.indexOf(' '));
        for (int n = 1; n <= most; n++) {
            LinkTraining x = Sentence.takesText(others + many(template, n));
            int[] counts = {x.rateCount(), x.laneCount(), x.patternCount()};
            Sentence.same(word + "s of " + n, counts[kind], n);
            for (int i = 0; i <= most; i++) {
                Feed.text(x, "" + (char) ('a' + i));
                Sentence.same("the number of " + word + " " + i + " of " + n, x.find(kind), i < n ? i : NONE);
            }
        }
        Sentence.refusesText(others + "|", 5);
        Sentence.refusesText(others + many(template, most) + "|" + word, 4);
        Sentence.refusesText(others + many(template, most) + "|" + template.replace("#", "z"), 4);
        Sentence.refusesText(others + many(template, most) + "|" + template.replace("#", "a"), 4);
        Sentence.refusesText(others + many(template, most) + "|" + word + " " + word + " 99999;", 4);
        Sentence.refusesText(others + many(template, most - 1) + word + " |" + word, 1);
    }

    private static void counts() {
        String rate = "rate # period 100 jitter 0;";
        String lane = "lane # skew 0 width 800 vref 0 slope 0;";
        String pattern = "pattern # 01;";
        Sentence.of("1 to 4 rates, numbered from 0");
        count(LINK + LANE + PATTERN, rate, 4, 0);
        Sentence.of("1 to 8 lanes, numbered from 0");
        count(LINK + RATE + PATTERN, lane, 8, 1);
        Sentence.of("1 to 6 patterns, numbered from 0");
        count(LINK + RATE + LANE, pattern, 6, 2);
        String most = LINK + many(rate, 4) + many(lane, 8) + many(pattern, 6);
        Sentence.same("4 rates, 8 lanes, 6 patterns", Feed.load(new LinkTraining(), most), 8);
        Sentence.of("Must be the first statement, and no other statement may be one.");
        for (String first : new String[] {RATE, LANE, PATTERN, "stress run 1 change 1;", "margin time 1 volts 1;",
            "fallback r to r;"}) {
            Sentence.refusesText("|" + first + LINK, 1);
        }
        Sentence.refusesText(LINK + "|" + LINK, 1);
        Sentence.refusesText(ALL + "|" + LINK, 1);
        Sentence.of("At most one such statement (stress, margin).");
        String stress = "stress run 1 change 1;";
        String margin = "margin time 1 volts 1;";
        Sentence.takesText(ALL + stress + margin);
        Sentence.takesText(LINK + margin + stress + RATE + LANE + PATTERN);
        Sentence.refusesText(LINK + stress + "|" + stress, 4);
        Sentence.refusesText(LINK + margin + stress + RATE + "|" + margin, 4);
        Sentence.refusesText(LINK + margin + stress + RATE + "|stress stress", 4);
        Sentence.refusesText(LINK + stress.replace("1", "0") + "|" + stress, 4);
        Sentence.refusesText(LINK + margin.replace("1", "0") + "|" + margin, 4);
    }

    private static void fallbacks() {
        String two = RATE + "rate s period 200 jitter 0;";
        Sentence.of("Both are names of earlier rate statements; at most one such statement for the same first rate.");
        Sentence.takesText(LINK + two + LANE + PATTERN + "fallback r to s;fallback s to r;");
        Sentence.takesText(ALL + "fallback r to r;");
        Sentence.takesText(LINK + two + LANE + PATTERN + "fallback r to s;fallback s to s;");
        Sentence.refusesText(LINK + RATE + "fallback |s to r;rate s period 200 jitter 0;", 3);
        Sentence.refusesText(LINK + RATE + "fallback r to |s;rate s period 200 jitter 0;", 3);
        Sentence.refusesText(LINK + "fallback |r to r;", 3);
        Sentence.refusesText(LINK + two + "fallback r to s;fallback |r to s;", 3);
        Sentence.refusesText(LINK + two + "fallback r to s;fallback |r to r;", 3);
        Sentence.refusesText(LINK + two + "fallback r to r;fallback |r to s;", 3);
        Sentence.refusesText(LINK + two + "fallback s to r;fallback r to s;fallback |s to s;", 3);
        Sentence.refusesText(ALL + "fallback |l to r;", 3);
        Sentence.refusesText(ALL + "fallback r to |p;", 3);
        Sentence.refusesText(ALL + "fallback r |r;", 1);
        Sentence.refusesText(ALL + "fallback r to r |r;", 1);
        Sentence.of("Rates, lanes and patterns may have the same names as things of another kind, but not of the same "
                + "kind.");
        String same = RATE + LANE.replace(" l ", " r ") + PATTERN.replace(" p ", " r ");
        LinkTraining x = Sentence.takesText(LINK + same);
        for (int kind = 0; kind < 3; kind++) {
            Feed.text(x, "r");
            Sentence.same("r of kind " + kind, x.find(kind), 0);
        }
        Sentence.refusesText(LINK + same + "rate |r period 100 jitter 0;", 3);
        Sentence.refusesText(LINK + same + "lane |r skew 0 width 1 vref 0 slope 0;", 3);
        Sentence.refusesText(LINK + same + "pattern |r 01;", 3);
        Sentence.refusesText(LINK + RATE + "rate s period 100 jitter 0;rate |r period 100 jitter 0;", 3);
        Sentence.takesText(ALL + "rate rr period 100 jitter 0;lane ll skew 0 width 1 vref 0 slope 0;pattern pp 01;");
    }

    private static void errors() {
        Sentence.of("The parser reads tokens from left to right and stops at the first token that has an error");
        Sentence.refusesText("link step |0 taps 3 vrefs 0;rate", 2);
        Sentence.refusesText("link step 1 taps |3 vrefs ?;", 2);
        Sentence.refusesText(LINK + "rate |rate period 99;", 1);
        Sentence.refusesText(LINK + RATE + "rate |r ; ;", 3);
        Sentence.refusesText(LINK + "pattern p |2 01;link", 1);
        Sentence.refusesText(LINK + RATE + "fallback |x to y;", 3);
        Sentence.of("if that token has several errors, the smallest code counts");
        Sentence.refusesText("link step 10 taps 32 vrefs 3|", 1);
        Sentence.refusesText(LINK + "rate r period 100 jitter 0|", 1);
        Sentence.refusesText(LINK + "pattern p 01 \n|", 1);
        Sentence.refusesText(LINK + "pattern|", 1);
        Sentence.refusesText(LINK + "fallback |to to r;", 1);
        Sentence.refusesText(LINK + "pattern p |99999999999999999999;", 1);
        Sentence.of("The error position is the offset of the token's first byte; for the end of the text it is the "
                + "text's length.");
        Sentence.refusesText("|linkx step", 1);
        Sentence.refusesText("  \n|linkx step", 1);
        Sentence.refusesText("link   step \n |51 taps", 2);
        Sentence.refusesText(LINK + "  |", 5);
        Sentence.refusesText("link step 10  \n|", 1);
        Sentence.refusesText(ALL + " ".repeat(1385 - ALL.length()) + "margin time |501", 2);
    }

    private static void codes() {
        Sentence.of("Code 1: the token cannot stand here (also the end of an empty text; a number with other digits than "
                + "0 and 1, or with more than 16 digits, for the bits of a pattern)");
        Sentence.refusesText("|", 1);
        Sentence.refusesText("|0", 1);
        Sentence.refusesText(LINK + "|step", 1);
        Sentence.refusesText(LINK + "|r period 100 jitter 0;", 1);
        Sentence.refusesText(LINK + "pattern p |12;", 1);
        Sentence.refusesText(LINK + "pattern p |10000000000000000;", 1);
        Sentence.of("Code 2: a number is out of range");
        Sentence.refusesText(LINK + RATE + "rate s period |99 jitter 201;", 2);
        Sentence.of("Code 3: a name that a thing of this kind already has (in rate, lane and pattern statements); in a "
                + "fallback statement a name that no rate has, or a first rate that already has a fallback");
        Sentence.refusesText(ALL + "rate |r", 3);
        Sentence.refusesText(ALL + "lane |l", 3);
        Sentence.refusesText(ALL + "pattern |p", 3);
        Sentence.refusesText(ALL + "fallback |s", 3);
        Sentence.refusesText(ALL + "fallback r to |s", 3);
        Sentence.refusesText(ALL + "fallback r to r;fallback |r", 3);
        Sentence.of("Code 5: the end of the text if there is no rate, no lane or no pattern");
        for (int there = 0; there < 7; there++) {
            Sentence.refusesText(LINK + ((there & 1) > 0 ? RATE : "") + ((there & 2) > 0 ? LANE : "")
                    + ((there & 4) > 0 ? PATTERN : "") + " |", 5);
        }
        Sentence.refusesText(LINK + "stress run 1 change 1;margin time 1 volts 1;|", 5);
        Sentence.takesText(ALL);
        Sentence.takesText(LINK + PATTERN + LANE + RATE);
    }

    /** Promises 4 to 6: what a load changes, and what the parse error is afterwards. */
    private static void loads() {
        Sentence.of("load: PARSE_ERROR if there is a parse error (then only the buffer and the parse error change).");
        LinkTraining x = Feed.loaded(Links.TWO);
        x.train();
        x.writeSettings();
        x.setTemperature(33);
        String before = Look.at(x).replaceFirst("0 -1 things", "");
        Sentence.same("an empty text", x.load(), LinkTraining.PARSE_ERROR);
        Sentence.same("all but the error", Look.at(x).replaceFirst("1 0 things", ""), before);
        Feed.text(x, ALL + "rate");
        Sentence.same("an error at the end", x.load(), LinkTraining.PARSE_ERROR);
        Sentence.same("all but the error", Look.at(x).replaceFirst("1 " + (ALL.length() + 4) + " things", ""), before);
        Sentence.refuses("truncate(1)", x, ARGUMENT, y -> Look.cut(y, 1));
        Sentence.same("what can be undone", x.undo(), 2);
        Sentence.of("On success everything is that of the text: rate 0 and temperature 0 are present, the link is not "
                + "trained, and the log is empty.");
        Feed.load(x, Links.DRIFT);
        x.setTemperature(9);
        x.trainWithFallback();
        Feed.text(x, ALL);
        Sentence.same("load", x.load(), 1);
        Sentence.same("rate", x.rate(), 0);
        Sentence.same("temperature", x.temperature(), 0);
        Sentence.same("isTrained", x.isTrained(), false);
        Sentence.same("logSize", x.logSize(), 0);
        Sentence.same("counts", "" + x.rateCount() + x.laneCount() + x.patternCount(), "111");
        Sentence.same("fallbackFrom(0), now without a fallback", x.fallbackFrom(0), 0);
        Sentence.same("penalty(0), now without stress", x.penalty(0), 0);
        Sentence.same("scoreOf(0), now without margins", x.scoreOf(0), 20);
        Sentence.refuses("truncate(1)", x, ARGUMENT, y -> Look.cut(y, 1));
        Sentence.of("errorCode, errorPosition: of the parse error of the last load(); 0 and NONE if it had none or there "
                + "was no load().");
        LinkTraining e = new LinkTraining();
        Sentence.same("before", e.errorCode() + " " + e.errorPosition(), "0 -1");
        Feed.load(e, "link step 51");
        Sentence.same("of a 2", e.errorCode() + " " + e.errorPosition(), "2 10");
        Feed.load(e, LINK);
        Sentence.same("of a 5", e.errorCode() + " " + e.errorPosition(), "5 " + LINK.length());
        Feed.text(e, "abc");
        e.find(0);
        Sentence.same("find changes none", e.errorCode() + " " + e.errorPosition(), "5 " + LINK.length());
        Feed.load(e, ALL);
        Sentence.same("of a success", e.errorCode() + " " + e.errorPosition(), "0 -1");
        e.load();
        e.undo();
        Sentence.same("undo brings none back", e.errorCode() + " " + e.errorPosition(), "1 0");
        Sentence.same("of the empty text before the link", e.laneCount(), 0);
    }

    /** Promise 7. */
    private static void found(LinkTraining x, String name, int kind, int due) {
        Feed.text(x, name);
        Sentence.same("find(" + kind + ") of " + name, x.find(kind), due);
        Sentence.refuses("truncate(1) after it", x, ARGUMENT, y -> Look.cut(y, 1));
    }

    private static void finds() {
        Sentence.of("find: a thing whose name is the whole content of the input buffer. The buffer is empty afterwards.");
        LinkTraining x = Feed.loaded(LINK + many("rate #rate period 100 jitter 0;", 4)
                + many("lane #l skew 0 width 800 vref 0 slope 0;", 3) + "pattern abcdef 01;");
        found(x, "arate", 0, 0);
        found(x, "drate", 0, 3);
        found(x, "cl", 1, 2);
        found(x, "abcdef", 2, 0);
        for (String other : new String[] {"", " ", "drat", "drat ", "drate ", " drate", "drate\n", "drate;", "drated",
            "rate", "DRATE", "d", "drate drate", "cl", "abcdef", "drate" + " ".repeat(1395)}) {
            found(x, other, 0, NONE);
        }
        found(x, "arate", 1, NONE);
        found(x, "arate", 2, NONE);
        found(x, "abcde", 2, NONE);
        LinkTraining none = new LinkTraining();
        for (int kind = 0; kind < 3; kind++) {
            found(none, "a", kind, NONE);
            found(none, "", kind, NONE);
        }
        Sentence.of("find: IllegalArgumentException if kind is out of range (the buffer stays then)");
        for (int kind : new int[] {-1, 3, Integer.MIN_VALUE, Integer.MAX_VALUE}) {
            Feed.text(x, "brate");
            Sentence.refuses("find(" + kind + ")", x, ARGUMENT, y -> y.find(kind));
            Sentence.same("the buffer stays", x.find(0), 1);
        }
    }

    public static void main(String[] args) {
        theBuffer();
        statements();
        tokens();
        names();
        ranges();
        patterns();
        stressAndMargin();
        counts();
        fallbacks();
        errors();
        codes();
        loads();
        finds();
        Sentence.end();
    }
}
