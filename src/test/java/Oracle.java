import java.util.ArrayList;
import java.util.HashMap;
import java.util.List;
import java.util.Map;
import java.util.NoSuchElementException;
import java.util.Set;

/** The document read word by word, without any care for speed: what the program is compared with. */
public final class Oracle {
    private static final Set<String> KEYWORDS = Set.of("link", "step", "taps", "vrefs", "rate", "period", "jitter",
            "lane", "skew", "width", "vref", "slope", "drift", "minus", "pattern", "stress", "run", "change",
            "margin", "time", "volts", "fallback", "to");

    private record Token(String text, int at) {
        boolean isWord() {
            return text.matches("[a-z]+");
        }

        boolean isNumber() {
            return text.matches("[0-9]+");
        }
    }

    private record Rate(String name, int period, int jitter) { }

    private record Lane(String name, int skew, int width, int vref, int slope, int drift) { }

    private record Pattern(String name, String bits, int longest, int changes) {
        Pattern(String name, String bits) {
            this(name, bits, Math.min(bits.length(), longestRun(bits + bits)), runs(bits + bits.charAt(0)).length - 1);
        }

        private static String[] runs(String bits) {
            return bits.split("(?<=0)(?=1)|(?<=1)(?=0)");
        }

        private static int longestRun(String bits) {
            return java.util.Arrays.stream(runs(bits)).mapToInt(String::length).max().getAsInt();
        }
    }

    private record Choice(int score, int tap, int vref) { }

    private record Attempt(int rate, int score) { }

    private static final class Fault extends Exception {
        final int code;
        final int position;

        Fault(int code, int position) {
            this.code = code;
            this.position = position;
        }
    }

    private static final class Model {
        int step = 1;
        int taps = 4;
        int vrefs = 1;
        int run = 0;
        int change = 0;
        int time = 0;
        int volts = 0;
        final List<Rate> rates = new ArrayList<>();
        final List<Lane> lanes = new ArrayList<>();
        final List<Pattern> patterns = new ArrayList<>();
        final Map<Integer, Integer> fallbacks = new HashMap<>();
    }

    private record Kept(Model model, int rate, int temperature, boolean trained, int bit, List<int[]> settings,
            List<Attempt> log) { }

    private final StringBuilder input = new StringBuilder();
    private String output = "";
    private int code = 0;
    private int position = -1;
    private Model model = new Model();
    private int rate = -1;
    private int temperature = 0;
    private boolean trained = false;
    private int bit = 0;
    private List<int[]> settings = new ArrayList<>();
    private List<Attempt> log = new ArrayList<>();
    private final List<Kept> history = new ArrayList<>();

    // The text

    private static List<Token> tokens(String text) {
        List<Token> tokens = new ArrayList<>();
        java.util.regex.Matcher m = java.util.regex.Pattern.compile("[a-z]+|[0-9]+|[^ \n]", 0).matcher(text);
        while (m.find()) {
            tokens.add(new Token(m.group(), m.start()));
        }
        tokens.add(new Token("", text.length()));
        return tokens;
    }

    private static final class Reader {
        final List<Token> tokens;
        int next = 0;

        Reader(List<Token> tokens) {
            this.tokens = tokens;
        }

        Token here() {
            return tokens.get(next);
        }

        Token literal(String... words) throws Fault {
            for (String word : words) {
                if (!here().text.equals(word)) {
                    throw new Fault(1, here().at);
                }
                next++;
            }
            return here();
        }

        int number(int low, int high) throws Fault {
            Token token = here();
            if (!token.isNumber()) {
                throw new Fault(1, token.at);
            }
            java.math.BigInteger value = new java.math.BigInteger(token.text);
            if (value.compareTo(java.math.BigInteger.valueOf(low)) < 0
                    || value.compareTo(java.math.BigInteger.valueOf(high)) > 0) {
                throw new Fault(2, token.at);
            }
            next++;
            return value.intValue();
        }

        String name(List<String> taken) throws Fault {
            Token token = here();
            if (!token.isWord() || token.text.length() > 6 || KEYWORDS.contains(token.text)) {
                throw new Fault(1, token.at);
            }
            if (taken.contains(token.text)) {
                throw new Fault(3, token.at);
            }
            next++;
            return token.text;
        }
    }

    private static Model parse(String text) throws Fault {
        Reader in = new Reader(tokens(text));
        Model m = new Model();
        in.literal("link", "step");
        m.step = in.number(1, 50);
        in.literal("taps");
        m.taps = in.number(4, 128);
        in.literal("vrefs");
        m.vrefs = in.number(1, 16);
        in.literal(";");
        boolean stress = false;
        boolean margin = false;
        while (!in.here().text.isEmpty()) {
            Token first = in.here();
            String word = first.text;
            in.next++;
            boolean full = word.equals("rate") && m.rates.size() == 4 || word.equals("lane") && m.lanes.size() == 8
                    || word.equals("pattern") && m.patterns.size() == 6 || word.equals("stress") && stress
                    || word.equals("margin") && margin;
            if (full) {
                throw new Fault(4, first.at);
            }
            switch (word) {
                case "rate" -> {
                    String name = in.name(rateNames(m));
                    in.literal("period");
                    int period = in.number(100, 2000);
                    in.literal("jitter");
                    m.rates.add(new Rate(name, period, in.number(0, 200)));
                }
                case "lane" -> {
                    String name = in.name(m.lanes.stream().map(Lane::name).toList());
                    in.literal("skew");
                    int skew = in.number(0, 4000);
                    in.literal("width");
                    int width = in.number(1, 1000);
                    in.literal("vref");
                    int vref = in.number(0, m.vrefs - 1);
                    in.literal("slope");
                    int slope = in.number(0, 200);
                    int drift = 0;
                    if (in.here().text.equals("drift")) {
                        in.next++;
                        int sign = 1;
                        if (in.here().text.equals("minus")) {
                            in.next++;
                            sign = -1;
                        }
                        drift = sign * in.number(0, 50);
                    }
                    m.lanes.add(new Lane(name, skew, width, vref, slope, drift));
                }
                case "pattern" -> {
                    String name = in.name(m.patterns.stream().map(Pattern::name).toList());
                    if (!in.here().text.matches("[01]{1,16}")) {
                        throw new Fault(1, in.here().at);
                    }
                    m.patterns.add(new Pattern(name, in.here().text));
                    in.next++;
                }
                case "stress" -> {
                    stress = true;
                    in.literal("run");
                    m.run = in.number(0, 50);
                    in.literal("change");
                    m.change = in.number(0, 50);
                }
                case "margin" -> {
                    margin = true;
                    in.literal("time");
                    m.time = in.number(0, 500);
                    in.literal("volts");
                    m.volts = in.number(0, 8);
                }
                case "fallback" -> {
                    int at = in.here().at;
                    int from = rateNames(m).indexOf(in.name(List.of()));
                    if (from < 0 || m.fallbacks.containsKey(from)) {
                        throw new Fault(3, at);
                    }
                    at = in.literal("to").at;
                    int to = rateNames(m).indexOf(in.name(List.of()));
                    if (to < 0) {
                        throw new Fault(3, at);
                    }
                    m.fallbacks.put(from, to);
                }
                default -> throw new Fault(1, first.at);
            }
            in.literal(";");
        }
        if (m.rates.isEmpty() || m.lanes.isEmpty() || m.patterns.isEmpty()) {
            throw new Fault(5, text.length());
        }
        return m;
    }

    private static List<String> rateNames(Model m) {
        return m.rates.stream().map(Rate::name).toList();
    }

    // Exceptions

    private static void index(int number, int count) {
        if (number < 0 || number >= count) {
            throw new IndexOutOfBoundsException();
        }
    }

    private static void range(int value, int low, int high) {
        if (value < low || value > high) {
            throw new IllegalArgumentException();
        }
    }

    private static void state(boolean holds) {
        if (!holds) {
            throw new IllegalStateException();
        }
    }

    private void place(int lane, int tap, int vref) {
        index(lane, model.lanes.size());
        range(tap, 0, model.taps - 1);
        range(vref, 0, model.vrefs - 1);
    }

    private void someRate() {
        state(rate >= 0);
    }

    // What a lane does at a rate, a temperature and without a pattern (-1: with all)

    private int offsetIn(int lane, int tap, int t) {
        Lane l = model.lanes.get(lane);
        return tap * model.step - (l.skew + l.drift * t / 100);
    }

    private int bitIn(int lane, int tap, int r, int t) {
        int p = model.rates.get(r).period;
        int b = -60; // below the bit of every offset that the ranges of a text allow
        while ((b + 1) * p <= offsetIn(lane, tap, t) + p / 2) {
            b++;
        }
        return b;
    }

    private int halfIn(int lane, int vref, int pattern, int r) {
        Lane l = model.lanes.get(lane);
        Rate rt = model.rates.get(r);
        return rt.period * l.width / 2000 - rt.jitter - l.slope * Math.abs(vref - l.vref) - penalty(pattern);
    }

    private boolean passes(int lane, int tap, int vref, int pattern, int r, int t) {
        int phase = offsetIn(lane, tap, t) - bitIn(lane, tap, r, t) * model.rates.get(r).period;
        return Math.abs(phase) <= halfIn(lane, vref, pattern, r);
    }

    private boolean worksIn(int lane, int tap, int vref, int r, int t, int without) {
        if (tap < 0 || tap >= model.taps || vref < 0 || vref >= model.vrefs) {
            return false;
        }
        for (int i = 0; i < model.patterns.size(); i++) {
            if (i != without && !passes(lane, tap, vref, i, r, t)) {
                return false;
            }
        }
        return true;
    }

    private int timeIn(int lane, int tap, int vref, int r, int without) {
        int k = 0;
        int b = bitIn(lane, tap, r, temperature);
        while (worksIn(lane, tap - k - 1, vref, r, temperature, without)
                && worksIn(lane, tap + k + 1, vref, r, temperature, without)
                && bitIn(lane, tap - k - 1, r, temperature) == b && bitIn(lane, tap + k + 1, r, temperature) == b) {
            k++;
        }
        return k * model.step;
    }

    private int voltsIn(int lane, int tap, int vref, int r, int without) {
        int k = 0;
        while (worksIn(lane, tap, vref - k - 1, r, temperature, without)
                && worksIn(lane, tap, vref + k + 1, r, temperature, without)) {
            k++;
        }
        return k;
    }

    private int scoreIn(int lane, int tap, int vref, int r, int without) {
        return Math.min(100 * timeIn(lane, tap, vref, r, without) / model.rates.get(r).period,
                100 * (2 * voltsIn(lane, tap, vref, r, without) + 1) / model.vrefs);
    }

    private Choice bestIn(int lane, int b, int r, int without, int time, int lowVref, int highVref) {
        Choice best = null;
        for (int v = lowVref; v <= highVref; v++) {
            for (int tap = 0; tap < model.taps; tap++) {
                boolean good = bitIn(lane, tap, r, temperature) == b && worksIn(lane, tap, v, r, temperature, without)
                        && timeIn(lane, tap, v, r, without) >= time && voltsIn(lane, tap, v, r, without) >= model.volts;
                if (good) {
                    int score = scoreIn(lane, tap, v, r, without);
                    if (best == null || score > best.score) {
                        best = new Choice(score, tap, v);
                    }
                }
            }
        }
        return best;
    }

    private int scoreForBit(int b, int r, int without, int time, int lowVref, int highVref) {
        int smallest = Integer.MAX_VALUE;
        for (int lane = 0; lane < model.lanes.size(); lane++) {
            boolean sampled = false;
            for (int tap = 0; tap < model.taps; tap++) {
                sampled |= bitIn(lane, tap, r, temperature) == b;
            }
            Choice best = sampled ? bestIn(lane, b, r, without, time, lowVref, highVref) : null;
            if (best == null) {
                return -1;
            }
            smallest = Math.min(smallest, best.score);
        }
        return smallest;
    }

    // Score and bit
    private int[] training(int r, int without, int time) {
        int[] chosen = {-1, 0};
        // Bits that lane 0 does not sample cannot be trained; they are left out for time alone.
        for (int b = bitIn(0, 0, r, temperature); b <= bitIn(0, model.taps - 1, r, temperature); b++) {
            int score = scoreForBit(b, r, without, time, 0, model.vrefs - 1);
            if (b >= -100 && b <= 100 && score > chosen[0]) {
                chosen = new int[] {score, b};
            }
        }
        return chosen;
    }

    private boolean holds(int lane, int t) {
        int tap = settings.get(lane)[0];
        return worksIn(lane, tap, settings.get(lane)[1], rate, t, -1) && bitIn(lane, tap, rate, t) == bit;
    }

    private int failingAt(int t) {
        int set = 0;
        for (int lane = 0; lane < model.lanes.size(); lane++) {
            set |= holds(lane, t) ? 0 : 1 << lane;
        }
        return set;
    }

    private List<int[]> eyes(int lane, int vref) {
        List<int[]> eyes = new ArrayList<>();
        for (int tap = 0; tap < model.taps; tap++) {
            int b = bitIn(lane, tap, rate, temperature);
            if (worksIn(lane, tap, vref, rate, temperature, -1)) {
                int[] last = eyes.isEmpty() ? null : eyes.get(eyes.size() - 1);
                if (last != null && last[1] == tap - 1 && last[2] == b) {
                    last[1] = tap;
                } else {
                    eyes.add(new int[] {tap, tap, b});
                }
            }
        }
        return eyes;
    }

    private int[] edges(int lane, int tap, int vref) {
        place(lane, tap, vref);
        someRate();
        state(worksIn(lane, tap, vref, rate, temperature, -1));
        int n = Math.max(1, model.rates.get(rate).period / (2 * model.step));
        int tests = 0;
        int low = Math.max(-1, tap - n);
        int high = tap;
        while (high - low > 1) {
            int m = Math.floorDiv(low + high, 2);
            int missed = firstFailure(lane, m, vref);
            tests += missed < 0 ? model.patterns.size() : missed + 1;
            if (missed < 0) {
                high = m;
            } else {
                low = m;
            }
        }
        int first = high;
        low = tap;
        high = Math.min(model.taps, tap + n);
        while (high - low > 1) {
            int m = Math.floorDiv(low + high, 2);
            int missed = firstFailure(lane, m, vref);
            tests += missed < 0 ? model.patterns.size() : missed + 1;
            if (missed < 0) {
                low = m;
            } else {
                high = m;
            }
        }
        return new int[] {first, low, tests};
    }

    private void keep() {
        List<int[]> copies = new ArrayList<>();
        settings.forEach(s -> copies.add(s.clone()));
        history.add(new Kept(model, rate, temperature, trained, bit, copies, new ArrayList<>(log)));
        if (history.size() > 8) {
            history.remove(0);
        }
    }

    private int attempt(int r) {
        int[] chosen = training(r, -1, model.time);
        log.add(new Attempt(r, chosen[0]));
        if (log.size() > 30) {
            log.remove(0);
        }
        if (chosen[0] >= 0) {
            settings = new ArrayList<>();
            for (int lane = 0; lane < model.lanes.size(); lane++) {
                Choice best = bestIn(lane, chosen[1], r, -1, model.time, 0, model.vrefs - 1);
                settings.add(new int[] {best.tap, best.vref});
            }
            rate = r;
            trained = true;
            bit = chosen[1];
        }
        return chosen[0];
    }

    int taps() {
        return model.taps;
    }

    int vrefs() {
        return model.vrefs;
    }

    // The face

    public int append(int a, int b, int c, int d, int e) {
        state(input.length() + 20 <= 1400);
        for (int word : new int[] {a, b, c, d, e}) {
            for (byte x : java.nio.ByteBuffer.allocate(4).putInt(word).array()) {
                input.append((char) (x & 0xff));
            }
        }
        return input.length();
    }

    public void truncate(int length) {
        range(length, 0, input.length());
        input.setLength(length);
    }

    public int load() {
        String text = input.toString();
        input.setLength(0);
        try {
            Model parsed = parse(text);
            code = 0;
            position = -1;
            keep();
            model = parsed;
            rate = 0;
            temperature = 0;
            trained = false;
            log = new ArrayList<>();
            return model.lanes.size();
        } catch (Fault f) {
            code = f.code;
            position = f.position;
            return -4;
        }
    }

    public int errorCode() {
        return code;
    }

    public int errorPosition() {
        return position;
    }

    public int find(int kind) {
        range(kind, 0, 2);
        List<String> names = kind == 0 ? rateNames(model)
                : kind == 1 ? model.lanes.stream().map(Lane::name).toList()
                : model.patterns.stream().map(Pattern::name).toList();
        int found = names.indexOf(input.toString());
        input.setLength(0);
        return found;
    }

    public int rateCount() {
        return model.rates.size();
    }

    public int laneCount() {
        return model.lanes.size();
    }

    public int patternCount() {
        return model.patterns.size();
    }

    public int rate() {
        return rate;
    }

    public int temperature() {
        return temperature;
    }

    public int longestRun(int pattern) {
        index(pattern, model.patterns.size());
        return model.patterns.get(pattern).longest;
    }

    public int changes(int pattern) {
        index(pattern, model.patterns.size());
        return model.patterns.get(pattern).changes;
    }

    public int penalty(int pattern) {
        index(pattern, model.patterns.size());
        return model.run * (longestRun(pattern) - 1) + model.change * changes(pattern);
    }

    public int worstPattern() {
        int worst = -1;
        for (int i = model.patterns.size() - 1; i >= 0; i--) {
            if (worst < 0 || penalty(i) >= penalty(worst)) {
                worst = i;
            }
        }
        return worst;
    }

    public int offset(int lane, int tap) {
        place(lane, tap, 0);
        return offsetIn(lane, tap, temperature);
    }

    public int bitAt(int lane, int tap) {
        place(lane, tap, 0);
        someRate();
        return bitIn(lane, tap, rate, temperature);
    }

    public int phase(int lane, int tap) {
        place(lane, tap, 0);
        someRate();
        return offsetIn(lane, tap, temperature)
                - bitIn(lane, tap, rate, temperature) * model.rates.get(rate).period;
    }

    public int half(int lane, int vref, int pattern) {
        index(lane, model.lanes.size());
        index(pattern, model.patterns.size());
        place(lane, 0, vref);
        someRate();
        return halfIn(lane, vref, pattern, rate);
    }

    public boolean test(int lane, int tap, int vref, int pattern) {
        index(lane, model.lanes.size());
        index(pattern, model.patterns.size());
        place(lane, tap, vref);
        someRate();
        return passes(lane, tap, vref, pattern, rate, temperature);
    }

    public boolean works(int lane, int tap, int vref) {
        place(lane, tap, vref);
        someRate();
        return worksIn(lane, tap, vref, rate, temperature, -1);
    }

    public int firstFailure(int lane, int tap, int vref) {
        place(lane, tap, vref);
        someRate();
        for (int i = 0; i < model.patterns.size(); i++) {
            if (!passes(lane, tap, vref, i, rate, temperature)) {
                return i;
            }
        }
        return -1;
    }

    public int eyeCount(int lane, int vref) {
        place(lane, 0, vref);
        someRate();
        return eyes(lane, vref).size();
    }

    public int eye(int lane, int vref, int index, int what) {
        place(lane, 0, vref);
        range(what, 0, 2);
        someRate();
        List<int[]> eyes = eyes(lane, vref);
        if (index < 0 || index >= eyes.size()) {
            throw new NoSuchElementException();
        }
        return eyes.get(index)[what];
    }

    public int eyeArea(int lane, int bit) {
        index(lane, model.lanes.size());
        range(bit, -100, 100);
        someRate();
        int area = 0;
        for (int tap = 0; tap < model.taps; tap++) {
            for (int v = 0; v < model.vrefs; v++) {
                if (bitIn(lane, tap, rate, temperature) == bit && worksIn(lane, tap, v, rate, temperature, -1)) {
                    area++;
                }
            }
        }
        return area;
    }

    public double eyeFill(int lane, int bit) {
        int area = eyeArea(lane, bit);
        int all = 0;
        for (int tap = 0; tap < model.taps; tap++) {
            all += bitIn(lane, tap, rate, temperature) == bit ? model.vrefs : 0;
        }
        return all == 0 ? 0.0 : (double) area / (double) all;
    }

    public int eyeHeight(int lane, int tap) {
        place(lane, tap, 0);
        someRate();
        int height = 0;
        for (int v = 0; v < model.vrefs; v++) {
            height += worksIn(lane, tap, v, rate, temperature, -1) ? 1 : 0;
        }
        return height;
    }

    public int firstEdge(int lane, int tap, int vref) {
        return edges(lane, tap, vref)[0];
    }

    public int lastEdge(int lane, int tap, int vref) {
        return edges(lane, tap, vref)[1];
    }

    public int edgeTests(int lane, int tap, int vref) {
        return edges(lane, tap, vref)[2];
    }

    public int timeMargin(int lane, int tap, int vref) {
        return works(lane, tap, vref) ? timeIn(lane, tap, vref, rate, -1) : -1;
    }

    public int voltageMargin(int lane, int tap, int vref) {
        return works(lane, tap, vref) ? voltsIn(lane, tap, vref, rate, -1) : -1;
    }

    public int score(int lane, int tap, int vref) {
        return works(lane, tap, vref) ? scoreIn(lane, tap, vref, rate, -1) : -1;
    }

    private Choice best(int lane, int bit) {
        index(lane, model.lanes.size());
        range(bit, -100, 100);
        someRate();
        return bestIn(lane, bit, rate, -1, model.time, 0, model.vrefs - 1);
    }

    public int bestTap(int lane, int bit) {
        Choice best = best(lane, bit);
        return best == null ? -1 : best.tap;
    }

    public int bestVref(int lane, int bit) {
        Choice best = best(lane, bit);
        return best == null ? -1 : best.vref;
    }

    public int scoreOf(int bit) {
        range(bit, -100, 100);
        someRate();
        return scoreForBit(bit, rate, -1, model.time, 0, model.vrefs - 1);
    }

    public int trainableBits() {
        someRate();
        int count = 0;
        for (int b = -100; b <= 100; b++) {
            count += scoreOf(b) >= 0 ? 1 : 0;
        }
        return count;
    }

    public int scoreAt(int rate) {
        index(rate, model.rates.size());
        return training(rate, -1, model.time)[0];
    }

    public int fastestRate() {
        int fastest = -1;
        for (int r = model.rates.size() - 1; r >= 0; r--) {
            if (scoreAt(r) >= 0
                    && (fastest < 0 || model.rates.get(r).period <= model.rates.get(fastest).period)) {
                fastest = r;
            }
        }
        return fastest;
    }

    public int fallbackFrom(int rate) {
        index(rate, model.rates.size());
        List<Integer> tried = new ArrayList<>();
        Integer r = rate;
        while (r != null && !tried.contains(r)) {
            if (scoreAt(r) >= 0) {
                return r;
            }
            tried.add(r);
            r = model.fallbacks.get(r);
        }
        return -1;
    }

    public int scoreWithout(int pattern) {
        index(pattern, model.patterns.size());
        someRate();
        return training(rate, pattern, model.time)[0];
    }

    public int greatestMargin() {
        someRate();
        int margin = training(rate, -1, 0)[0] >= 0 ? 0 : -1;
        // Time margins are multiples of the step, so that between two of them nothing changes.
        while (margin >= 0 && margin < 500
                && training(rate, -1, Math.min(500, margin + model.step))[0] >= 0) {
            margin = Math.min(500, margin + model.step);
        }
        return margin;
    }

    public int sharedVref(int bit) {
        range(bit, -100, 100);
        someRate();
        int shared = -1;
        int greatest = -1;
        for (int v = 0; v < model.vrefs; v++) {
            int score = scoreForBit(bit, rate, -1, model.time, v, v);
            if (score > greatest) {
                greatest = score;
                shared = v;
            }
        }
        return shared;
    }

    public int setRate(int rate) {
        index(rate, model.rates.size());
        keep();
        int previous = this.rate;
        this.rate = rate;
        trained = false;
        return previous;
    }

    public int setTemperature(int temperature) {
        range(temperature, -400, 1250);
        keep();
        int previous = this.temperature;
        this.temperature = temperature;
        return previous;
    }

    public int train() {
        someRate();
        keep();
        return attempt(rate);
    }

    public int trainWithFallback() {
        someRate();
        keep();
        List<Integer> tried = new ArrayList<>();
        Integer r = rate;
        while (r != null && !tried.contains(r)) {
            if (attempt(r) >= 0) {
                return r;
            }
            tried.add(r);
            r = model.fallbacks.get(r);
        }
        return -1;
    }

    public int retrain(int lane) {
        index(lane, model.lanes.size());
        state(trained);
        Choice best = best(lane, bit);
        if (best == null) {
            return -1;
        }
        keep();
        settings.set(lane, new int[] {best.tap, best.vref});
        return best.score;
    }

    public int set(int lane, int tap, int vref) {
        place(lane, tap, vref);
        state(trained);
        keep();
        settings.set(lane, new int[] {tap, vref});
        return score(lane, tap, vref);
    }

    public boolean isTrained() {
        return trained;
    }

    public int trainedBit() {
        state(trained);
        return bit;
    }

    public int setting(int lane, int what) {
        index(lane, model.lanes.size());
        range(what, 0, 1);
        state(trained);
        return settings.get(lane)[what];
    }

    public int failing() {
        state(trained);
        return failingAt(temperature);
    }

    public int weakestLane() {
        state(trained);
        int weakest = 0;
        for (int lane = 1; lane < model.lanes.size(); lane++) {
            if (score(lane, settings.get(lane)[0], settings.get(lane)[1])
                    < score(weakest, settings.get(weakest)[0], settings.get(weakest)[1])) {
                weakest = lane;
            }
        }
        return weakest;
    }

    public int receive(int lane, int pattern) {
        index(lane, model.lanes.size());
        index(pattern, model.patterns.size());
        state(trained);
        int tap = settings.get(lane)[0];
        if (!test(lane, tap, settings.get(lane)[1], pattern)) {
            return -1;
        }
        String bits = model.patterns.get(pattern).bits;
        int k = bitAt(lane, tap) - bit;
        int data = 0;
        for (int i = 0; i < bits.length(); i++) {
            int from = (i + k) % bits.length();
            from = from < 0 ? from + bits.length() : from;
            data += bits.charAt(from) == '1' ? 1 << i : 0;
        }
        return data;
    }

    public int temperatureLimit(boolean isUp) {
        state(trained);
        state(failing() == 0);
        int t = temperature;
        while (isUp ? t < 1250 && failingAt(t + 1) == 0 : t > -400 && failingAt(t - 1) == 0) {
            t += isUp ? 1 : -1;
        }
        return t;
    }

    public int logSize() {
        return log.size();
    }

    public int logEntry(int index, int what) {
        index(index, log.size());
        range(what, 0, 1);
        return what == 0 ? log.get(index).rate : log.get(index).score;
    }

    public int undo() {
        state(!history.isEmpty());
        Kept last = history.remove(history.size() - 1);
        model = last.model;
        rate = last.rate;
        temperature = last.temperature;
        trained = last.trained;
        bit = last.bit;
        settings = last.settings;
        log = last.log;
        return history.size();
    }

    public int writeSettings() {
        state(trained);
        output = "";
        for (int lane = 0; lane < model.lanes.size(); lane++) {
            output += model.lanes.get(lane).name + ":" + settings.get(lane)[0] + "/" + settings.get(lane)[1] + "\n";
        }
        return output.length();
    }

    public int outputByte(int index) {
        index(index, output.length());
        return output.charAt(index);
    }
}
