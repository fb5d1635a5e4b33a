import java.util.ArrayList;
import java.util.NoSuchElementException;

/** A trainer for a memory link; the document of the project says what each method promises. */
public final class LinkTraining {
    public static final int NONE = -1;
    public static final int PARSE_ERROR = -4;

    private static final int MAX_INPUT = 1400;
    private static final int BYTES_APPENDED = 20;
    private static final int MAX_RATES = 4;
    private static final int MAX_LANES = 8;
    private static final int MAX_PATTERNS = 6;
    private static final int MAX_BITS = 16;
    private static final int MAX_TAPS = 128;
    private static final int MAX_VREFS = 16;
    private static final int MAX_BIT = 100;
    private static final int MAX_TIME_MARGIN = 500;
    private static final int MIN_TEMPERATURE = -400;
    private static final int MAX_TEMPERATURE = 1250;
    private static final int MAX_LOG = 30;
    private static final int MAX_KEPT = 8;

    // Far below every penalty: a lane without a tested pattern passes them all, however small its eye.
    private static final int NO_PENALTY = -1000000;

    private final StringBuilder input = new StringBuilder();
    private final StringBuilder output = new StringBuilder();
    private int parseCode = 0;
    private int parsePosition = NONE;
    private State state = new State(new Link(1, 4, 1));
    private final ArrayList<State> kept = new ArrayList<>();
    private final Scan scan = new Scan();
    private final Survey survey = new Survey();

    public LinkTraining() {
    }

    public int append(int a, int b, int c, int d, int e) throws IllegalStateException {
        if (input.length() + BYTES_APPENDED > MAX_INPUT) {
            throw new IllegalStateException("the input buffer is full");
        }
        appendWord(a);
        appendWord(b);
        appendWord(c);
        appendWord(d);
        appendWord(e);
        return input.length();
    }

    public void truncate(int length) throws IllegalArgumentException {
        requireRange(length, 0, input.length());
        input.setLength(length);
    }

    public int load() {
        Parser parser = new Parser(takeInput());
        parser.parse();
        parseCode = parser.code;
        parsePosition = parser.position;
        if (parser.code != 0) {
            return PARSE_ERROR;
        }
        keep();
        state.begin(parser.link);
        return state.link.lanes.count();
    }

    public int errorCode() {
        return parseCode;
    }

    public int errorPosition() {
        return parsePosition;
    }

    public int find(int kind) throws IllegalArgumentException {
        requireRange(kind, 0, 2);
        String name = takeInput();
        if (kind == 0) {
            return state.link.rates.numberOf(name);
        }
        return kind == 1 ? state.link.lanes.numberOf(name) : state.link.patterns.numberOf(name);
    }

    public int rateCount() {
        return state.link.rates.count();
    }

    public int laneCount() {
        return state.link.lanes.count();
    }

    public int patternCount() {
        return state.link.patterns.count();
    }

    public int rate() {
        return state.rate;
    }

    public int temperature() {
        return state.temperature;
    }

    public int longestRun(int pattern) throws IndexOutOfBoundsException {
        return state.link.patterns.at(pattern).longest;
    }

    public int changes(int pattern) throws IndexOutOfBoundsException {
        return state.link.patterns.at(pattern).turns;
    }

    public int penalty(int pattern) throws IndexOutOfBoundsException {
        return state.link.penaltyOf(pattern);
    }

    public int worstPattern() {
        int worst = NONE;
        for (int i = 0; i < state.link.patterns.count(); i++) {
            if (worst == NONE || state.link.penaltyOf(i) > state.link.penaltyOf(worst)) {
                worst = i;
            }
        }
        return worst;
    }

    public int offset(int lane, int tap) throws IndexOutOfBoundsException, IllegalArgumentException {
        Lane sampled = state.link.lanes.at(lane);
        requireTap(tap);
        return offsetOf(sampled, tap);
    }

    public int bitAt(int lane, int tap)
            throws IndexOutOfBoundsException, IllegalArgumentException, IllegalStateException {
        Lane sampled = state.link.lanes.at(lane);
        requireTap(tap);
        return presentRate().bitOf(offsetOf(sampled, tap));
    }

    public int phase(int lane, int tap)
            throws IndexOutOfBoundsException, IllegalArgumentException, IllegalStateException {
        Lane sampled = state.link.lanes.at(lane);
        requireTap(tap);
        return presentRate().phaseOf(offsetOf(sampled, tap));
    }

    public int half(int lane, int vref, int pattern)
            throws IndexOutOfBoundsException, IllegalArgumentException, IllegalStateException {
        Lane sampled = state.link.lanes.at(lane);
        int penalty = state.link.penaltyOf(pattern);
        requireVref(vref);
        return sampled.halfAt(presentRate(), vref) - penalty;
    }

    public boolean test(int lane, int tap, int vref, int pattern)
            throws IndexOutOfBoundsException, IllegalArgumentException, IllegalStateException {
        Lane sampled = state.link.lanes.at(lane);
        int penalty = state.link.penaltyOf(pattern);
        requireTap(tap);
        requireVref(vref);
        Rate rate = presentRate();
        return rate.distanceOf(offsetOf(sampled, tap)) <= sampled.halfAt(rate, vref) - penalty;
    }

    public boolean works(int lane, int tap, int vref)
            throws IndexOutOfBoundsException, IllegalArgumentException, IllegalStateException {
        return firstMissed(lane, tap, vref) == NONE;
    }

    public int firstFailure(int lane, int tap, int vref)
            throws IndexOutOfBoundsException, IllegalArgumentException, IllegalStateException {
        return firstMissed(lane, tap, vref);
    }

    public int eyeCount(int lane, int vref)
            throws IndexOutOfBoundsException, IllegalArgumentException, IllegalStateException {
        Lane sampled = state.link.lanes.at(lane);
        requireVref(vref);
        lookAt(sampled);
        int eyes = 0;
        for (int tap = 0; tap < scan.taps; tap++) {
            if (scan.startsEye(tap, vref)) {
                eyes++;
            }
        }
        return eyes;
    }

    public int eye(int lane, int vref, int index, int what)
            throws IndexOutOfBoundsException, IllegalArgumentException, IllegalStateException,
            NoSuchElementException {
        Lane sampled = state.link.lanes.at(lane);
        requireVref(vref);
        requireRange(what, 0, 2);
        lookAt(sampled);
        int first = scan.startOfEye(index, vref);
        if (first == NONE) {
            throw new NoSuchElementException("no such eye");
        }
        if (what == 0) {
            return first;
        }
        return what == 1 ? scan.lastOfEye(first, vref) : scan.bitOf(first);
    }

    public int eyeArea(int lane, int bit)
            throws IndexOutOfBoundsException, IllegalArgumentException, IllegalStateException {
        Lane sampled = state.link.lanes.at(lane);
        requireBit(bit);
        lookAt(sampled);
        return scan.area(bit);
    }

    public double eyeFill(int lane, int bit)
            throws IndexOutOfBoundsException, IllegalArgumentException, IllegalStateException {
        Lane sampled = state.link.lanes.at(lane);
        requireBit(bit);
        lookAt(sampled);
        int all = (scan.firstTap(bit + 1) - scan.firstTap(bit)) * scan.vrefs;
        return all > 0 ? (double) scan.area(bit) / all : 0.0;
    }

    public int eyeHeight(int lane, int tap)
            throws IndexOutOfBoundsException, IllegalArgumentException, IllegalStateException {
        Lane sampled = state.link.lanes.at(lane);
        requireTap(tap);
        lookAt(sampled);
        int height = 0;
        for (int vref = 0; vref < scan.vrefs; vref++) {
            if (scan.open(tap, vref)) {
                height++;
            }
        }
        return height;
    }

    public int firstEdge(int lane, int tap, int vref)
            throws IndexOutOfBoundsException, IllegalArgumentException, IllegalStateException {
        return bisection(lane, tap, vref).lowEdge(tap);
    }

    public int lastEdge(int lane, int tap, int vref)
            throws IndexOutOfBoundsException, IllegalArgumentException, IllegalStateException {
        return bisection(lane, tap, vref).highEdge(tap);
    }

    public int edgeTests(int lane, int tap, int vref)
            throws IndexOutOfBoundsException, IllegalArgumentException, IllegalStateException {
        Bisection search = bisection(lane, tap, vref);
        search.lowEdge(tap);
        search.highEdge(tap);
        return search.tests;
    }

    public int timeMargin(int lane, int tap, int vref)
            throws IndexOutOfBoundsException, IllegalArgumentException, IllegalStateException {
        lookAt(laneAt(lane, tap, vref));
        return scan.open(tap, vref) ? scan.timeRoom(tap, vref) : NONE;
    }

    public int voltageMargin(int lane, int tap, int vref)
            throws IndexOutOfBoundsException, IllegalArgumentException, IllegalStateException {
        lookAt(laneAt(lane, tap, vref));
        return scan.open(tap, vref) ? scan.voltRoom(tap, vref) : NONE;
    }

    public int score(int lane, int tap, int vref)
            throws IndexOutOfBoundsException, IllegalArgumentException, IllegalStateException {
        lookAt(laneAt(lane, tap, vref));
        return scan.worthOf(tap, vref);
    }

    public int bestTap(int lane, int bit)
            throws IndexOutOfBoundsException, IllegalArgumentException, IllegalStateException {
        seekBest(lane, bit);
        return scan.bestTap;
    }

    public int bestVref(int lane, int bit)
            throws IndexOutOfBoundsException, IllegalArgumentException, IllegalStateException {
        seekBest(lane, bit);
        return scan.bestVref;
    }

    public int scoreOf(int bit) throws IllegalArgumentException, IllegalStateException {
        requireBit(bit);
        presentRate();
        surveyAt(state.rate, NONE);
        return survey.scoreFor(bit, 0, state.link.vrefs - 1);
    }

    public int trainableBits() throws IllegalStateException {
        presentRate();
        surveyAt(state.rate, NONE);
        return survey.trainable();
    }

    public int scoreAt(int rate) throws IndexOutOfBoundsException {
        state.link.rates.at(rate);
        return trainingScore(rate, NONE);
    }

    public int fastestRate() {
        int fastest = NONE;
        for (int rate = 0; rate < state.link.rates.count(); rate++) {
            boolean faster = fastest == NONE
                    || state.link.rates.at(rate).period < state.link.rates.at(fastest).period;
            if (faster && trainingScore(rate, NONE) != NONE) {
                fastest = rate;
            }
        }
        return fastest;
    }

    public int fallbackFrom(int rate) throws IndexOutOfBoundsException {
        state.link.rates.at(rate);
        int tried = 0;
        int next = rate;
        for (int i = 0; i < MAX_RATES && next != NONE; i++) {
            if (trainingScore(next, NONE) != NONE) {
                return next;
            }
            tried |= 1 << next;
            next = untriedFallback(next, tried);
        }
        return NONE;
    }

    public int scoreWithout(int pattern) throws IndexOutOfBoundsException, IllegalStateException {
        state.link.patterns.at(pattern);
        presentRate();
        return trainingScore(state.rate, pattern);
    }

    public int greatestMargin() throws IllegalStateException {
        presentRate();
        surveyAt(state.rate, NONE);
        return survey.greatestTime();
    }

    public int sharedVref(int bit) throws IllegalArgumentException, IllegalStateException {
        requireBit(bit);
        presentRate();
        surveyAt(state.rate, NONE);
        int shared = NONE;
        int greatest = NONE;
        for (int vref = 0; vref < state.link.vrefs; vref++) {
            int score = survey.scoreFor(bit, vref, vref);
            if (score > greatest) {
                greatest = score;
                shared = vref;
            }
        }
        return shared;
    }

    public int setRate(int rate) throws IndexOutOfBoundsException {
        state.link.rates.at(rate);
        keep();
        int previous = state.rate;
        state.rate = rate;
        state.trained = false;
        return previous;
    }

    public int setTemperature(int temperature) throws IllegalArgumentException {
        requireRange(temperature, MIN_TEMPERATURE, MAX_TEMPERATURE);
        keep();
        int previous = state.temperature;
        state.temperature = temperature;
        return previous;
    }

    public int train() throws IllegalStateException {
        presentRate();
        keep();
        return attempt(state.rate);
    }

    public int trainWithFallback() throws IllegalStateException {
        presentRate();
        keep();
        int tried = 0;
        int next = state.rate;
        for (int i = 0; i < MAX_RATES && next != NONE; i++) {
            if (attempt(next) != NONE) {
                return next;
            }
            tried |= 1 << next;
            next = untriedFallback(next, tried);
        }
        return NONE;
    }

    public int retrain(int lane) throws IndexOutOfBoundsException, IllegalStateException {
        state.link.lanes.at(lane);
        requireTrained();
        seekBest(lane, state.bit);
        if (scan.bestScore != NONE) {
            keep();
            state.settle(lane, scan.bestTap, scan.bestVref);
        }
        return scan.bestScore;
    }

    public int set(int lane, int tap, int vref)
            throws IndexOutOfBoundsException, IllegalArgumentException, IllegalStateException {
        Lane changed = laneAt(lane, tap, vref);
        requireTrained();
        keep();
        state.settle(lane, tap, vref);
        lookAt(changed);
        return scan.worthOf(tap, vref);
    }

    public boolean isTrained() {
        return state.trained;
    }

    public int trainedBit() throws IllegalStateException {
        requireTrained();
        return state.bit;
    }

    public int setting(int lane, int what)
            throws IndexOutOfBoundsException, IllegalArgumentException, IllegalStateException {
        state.link.lanes.at(lane);
        requireRange(what, 0, 1);
        requireTrained();
        return what == 0 ? state.tapOf(lane) : state.vrefOf(lane);
    }

    public int failing() throws IllegalStateException {
        requireTrained();
        int lanes = 0;
        for (int lane = 0; lane < state.link.lanes.count(); lane++) {
            if (!holdsAt(lane, state.temperature)) {
                lanes |= 1 << lane;
            }
        }
        return lanes;
    }

    public int weakestLane() throws IllegalStateException {
        requireTrained();
        int weakest = NONE;
        int smallest = NONE;
        for (int lane = 0; lane < state.link.lanes.count(); lane++) {
            lookAt(state.link.lanes.at(lane));
            int score = scan.worthOf(state.tapOf(lane), state.vrefOf(lane));
            if (weakest == NONE || score < smallest) {
                weakest = lane;
                smallest = score;
            }
        }
        return weakest;
    }

    public int receive(int lane, int pattern) throws IndexOutOfBoundsException, IllegalStateException {
        Lane sampled = state.link.lanes.at(lane);
        Pattern sent = state.link.patterns.at(pattern);
        requireTrained();
        Rate rate = presentRate();
        int offset = offsetOf(sampled, state.tapOf(lane));
        int half = sampled.halfAt(rate, state.vrefOf(lane)) - state.link.penaltyOf(pattern);
        return rate.distanceOf(offset) <= half ? sent.shifted(rate.bitOf(offset) - state.bit) : NONE;
    }

    public int temperatureLimit(boolean isUp) throws IllegalStateException {
        if (failing() != 0) {
            throw new IllegalStateException("a lane fails now");
        }
        int limit = isUp ? MAX_TEMPERATURE : MIN_TEMPERATURE;
        for (int lane = 0; lane < state.link.lanes.count(); lane++) {
            limit = lastHolding(lane, limit);
        }
        return limit;
    }

    public int logSize() {
        return state.logCount;
    }

    public int logEntry(int index, int what) throws IndexOutOfBoundsException, IllegalArgumentException {
        if (index < 0 || index >= state.logCount) {
            throw new IndexOutOfBoundsException("no such attempt");
        }
        requireRange(what, 0, 1);
        return what == 0 ? state.logRates[index] : state.logScores[index];
    }

    public int undo() throws IllegalStateException {
        if (kept.isEmpty()) {
            throw new IllegalStateException("nothing to undo");
        }
        state = kept.remove(kept.size() - 1);
        return kept.size();
    }

    public int writeSettings() throws IllegalStateException {
        requireTrained();
        output.setLength(0);
        for (int lane = 0; lane < state.link.lanes.count(); lane++) {
            output.append(state.link.lanes.at(lane).name);
            output.append(':');
            output.append(state.tapOf(lane));
            output.append('/');
            output.append(state.vrefOf(lane));
            output.append('\n');
        }
        return output.length();
    }

    public int outputByte(int index) throws IndexOutOfBoundsException {
        if (index < 0 || index >= output.length()) {
            throw new IndexOutOfBoundsException("no such byte");
        }
        return output.charAt(index);
    }

    // What the methods of the face share

    private void appendWord(int word) {
        for (int shift = 24; shift >= 0; shift -= 8) {
            input.append((char) ((word >>> shift) & 255));
        }
    }

    private String takeInput() {
        String text = input.toString();
        input.setLength(0);
        return text;
    }

    private static void requireRange(int value, int low, int high) {
        if (value < low || value > high) {
            throw new IllegalArgumentException("out of range");
        }
    }

    private void requireTap(int tap) {
        requireRange(tap, 0, state.link.taps - 1);
    }

    private void requireVref(int vref) {
        requireRange(vref, 0, state.link.vrefs - 1);
    }

    private static void requireBit(int bit) {
        requireRange(bit, -MAX_BIT, MAX_BIT);
    }

    private void requireTrained() {
        if (!state.trained) {
            throw new IllegalStateException("the link is not trained");
        }
    }

    private Rate presentRate() {
        if (state.rate < 0 || state.rate >= state.link.rates.count()) {
            throw new IllegalStateException("there is no rate");
        }
        return state.link.rates.at(state.rate);
    }

    private Lane laneAt(int lane, int tap, int vref) {
        Lane found = state.link.lanes.at(lane);
        requireTap(tap);
        requireVref(vref);
        return found;
    }

    private int offsetOf(Lane lane, int tap) {
        return lane.offsetAt(tap * state.link.step, state.temperature);
    }

    private int firstMissed(int lane, int tap, int vref) {
        Lane sampled = laneAt(lane, tap, vref);
        Rate rate = presentRate();
        int distance = rate.distanceOf(offsetOf(sampled, tap));
        return state.link.firstMissed(distance, sampled.halfAt(rate, vref));
    }

    private Bisection bisection(int lane, int tap, int vref) {
        if (firstMissed(lane, tap, vref) != NONE) {
            throw new IllegalStateException("the lane does not work there");
        }
        return new Bisection(state.link, presentRate(), state.link.lanes.at(lane), vref, state.temperature);
    }

    private void lookAt(Lane lane) {
        scan.look(state.link, presentRate(), lane, state.temperature, state.link.worstPenalty(NONE));
    }

    private void seekBest(int lane, int bit) {
        Lane sought = state.link.lanes.at(lane);
        requireBit(bit);
        lookAt(sought);
        scan.seek(bit, 0, scan.vrefs - 1);
    }

    private void surveyAt(int rate, int skippedPattern) {
        survey.prepare(state.link, state.link.rates.at(rate), state.temperature, skippedPattern);
    }

    private int trainingScore(int rate, int skippedPattern) {
        surveyAt(rate, skippedPattern);
        return survey.choose();
    }

    private int untriedFallback(int rate, int tried) {
        int fallback = state.link.rates.at(rate).fallback;
        return fallback != NONE && (tried >> fallback & 1) == 0 ? fallback : NONE;
    }

    private int attempt(int rate) {
        surveyAt(rate, NONE);
        int score = survey.choose();
        state.record(rate, score);
        if (score != NONE) {
            state.rate = rate;
            state.trained = true;
            state.bit = survey.chosenBit;
            for (int lane = 0; lane < survey.lanes; lane++) {
                Scan best = survey.scans.get(lane);
                best.seek(survey.chosenBit, 0, best.vrefs - 1);
                state.settle(lane, best.bestTap, best.bestVref);
            }
        }
        return score;
    }

    private boolean holdsAt(int number, int temperature) {
        Lane lane = state.link.lanes.at(number);
        Rate rate = presentRate();
        int offset = lane.offsetAt(state.tapOf(number) * state.link.step, temperature);
        return rate.bitOf(offset) == state.bit
                && state.link.firstMissed(rate.distanceOf(offset), lane.halfAt(rate, state.vrefOf(number))) == NONE;
    }

    private int lastHolding(int lane, int limit) {
        int steps = Math.abs(limit - state.temperature);
        int direction = limit < state.temperature ? -1 : 1;
        for (int i = 1; i <= steps; i++) {
            if (!holdsAt(lane, state.temperature + direction * i)) {
                return state.temperature + direction * (i - 1);
            }
        }
        return limit;
    }

    private void keep() {
        // The oldest one's rows are used again, so that a long run of calls makes no more of them.
        State copy = kept.size() >= MAX_KEPT ? kept.remove(0) : new State(state.link);
        copy.take(state);
        kept.add(copy);
    }

    private static boolean isLetter(char c) {
        return c >= 'a' && c <= 'z';
    }

    private static boolean isDigit(char c) {
        return c >= '0' && c <= '9';
    }

    private abstract static class Named {
        final String name;

        Named(String name) {
            this.name = name;
        }
    }

    /** The things of one kind, numbered from 0. */
    private static final class Register<T extends Named> {
        private final ArrayList<T> things = new ArrayList<>();

        int count() {
            return things.size();
        }

        T at(int number) {
            if (number < 0 || number >= things.size()) {
                throw new IndexOutOfBoundsException("no such number");
            }
            return things.get(number);
        }

        void add(T thing) {
            things.add(thing);
        }

        int numberOf(String name) {
            for (int i = 0; i < things.size(); i++) {
                if (things.get(i).name.equals(name)) {
                    return i;
                }
            }
            return NONE;
        }
    }

    private static final class Rate extends Named {
        final int period;
        final int jitter;
        int fallback = NONE;

        Rate(String name, int period, int jitter) {
            super(name);
            // At least 1 because offsets are divided by it.
            this.period = Math.max(period, 1);
            this.jitter = jitter;
        }

        int bitOf(int offset) {
            return Math.floorDiv(offset + period / 2, period);
        }

        int phaseOf(int offset) {
            return offset - bitOf(offset) * period;
        }

        int distanceOf(int offset) {
            return Math.abs(phaseOf(offset));
        }
    }

    private static final class Lane extends Named {
        final int skew;
        final int width;
        final int bestVref;
        final int slope;
        final int drift;

        Lane(String name, int skew, int width, int bestVref, int slope, int drift) {
            super(name);
            this.skew = skew;
            this.width = width;
            this.bestVref = bestVref;
            this.slope = slope;
            this.drift = drift;
        }

        int offsetAt(int delay, int temperature) {
            return delay - (skew + drift * temperature / 100);
        }

        /** Half the eye before a pattern's penalty is taken off. */
        int halfAt(Rate rate, int vref) {
            return rate.period * width / 2000 - rate.jitter - slope * Math.abs(vref - bestVref);
        }
    }

    private static final class Pattern extends Named {
        final int length;
        final int digits;
        final int longest;
        final int turns;

        Pattern(String name, int length, int digits) {
            super(name);
            // At least 1 because places in it are taken modulo its length.
            this.length = Math.max(length, 1);
            this.digits = digits;
            int following = digits >> 1 | (digits & 1) << (this.length - 1);
            this.turns = Integer.bitCount(digits ^ following);
            this.longest = longestOf(digits ^ following, this.length);
        }

        /** The longest run of a pattern of which the set bits tell after which digits it turns. */
        private static int longestOf(int turning, int length) {
            int run = 0;
            int longest = 0;
            // Twice round, so that a run over the end is met whole.
            for (int i = 0; i < 2 * length; i++) {
                run++;
                longest = Math.max(longest, run);
                if ((turning >> (i < length ? i : i - length) & 1) == 1) {
                    run = 0;
                }
            }
            return Math.min(longest, length);
        }

        int shifted(int by) {
            int bits = 0;
            for (int i = 0; i < length; i++) {
                bits |= (digits >> Math.floorMod(i + by, length) & 1) << i;
            }
            return bits;
        }
    }

    /** What one text says; nothing of it changes once the text is parsed. */
    private static final class Link {
        final int step;
        final int taps;
        final int vrefs;
        int runStress = 0;
        int changeStress = 0;
        int timeNeeded = 0;
        int voltsNeeded = 0;
        final Register<Rate> rates = new Register<>();
        final Register<Lane> lanes = new Register<>();
        final Register<Pattern> patterns = new Register<>();

        Link(int step, int taps, int vrefs) {
            this.step = step;
            this.taps = taps;
            this.vrefs = vrefs;
        }

        int penaltyOf(int pattern) {
            Pattern sent = patterns.at(pattern);
            return runStress * (sent.longest - 1) + changeStress * sent.turns;
        }

        int worstPenalty(int skippedPattern) {
            int worst = NO_PENALTY;
            for (int i = 0; i < patterns.count(); i++) {
                if (i != skippedPattern) {
                    worst = Math.max(worst, penaltyOf(i));
                }
            }
            return worst;
        }

        int firstMissed(int distance, int half) {
            for (int i = 0; i < patterns.count(); i++) {
                if (distance > half - penaltyOf(i)) {
                    return i;
                }
            }
            return NONE;
        }
    }

    /** Parses a text; after the first error every further step does nothing. */
    private static final class Parser {
        private static final int MISPLACED = 1;
        private static final int OUT_OF_RANGE = 2;
        private static final int WRONG_NAME = 3;
        private static final int TOO_MANY = 4;
        private static final int INCOMPLETE = 5;
        private static final int MAX_NAME = 6;
        // Above every range, and ten times it still fits an int.
        private static final int HUGE = 1000000;

        private final String text;
        private final StringBuilder signs = new StringBuilder();
        // The present token, empty at the end of the text, and where it starts and ends.
        private String token = "";
        private int start = 0;
        private int end = 0;
        private boolean hasStress = false;
        private boolean hasMargin = false;
        int code = 0;
        int position = NONE;
        Link link = new Link(1, 4, 1);

        Parser(String text) {
            this.text = text;
        }

        void parse() {
            next();
            parseLink();
            for (int i = 0; i < text.length() && code == 0 && !token.isEmpty(); i++) {
                parseStatement();
            }
            if (link.rates.count() == 0 || link.lanes.count() == 0 || link.patterns.count() == 0) {
                fail(INCOMPLETE);
            }
        }

        private void parseLink() {
            expect("link");
            expect("step");
            int step = number(1, 50);
            expect("taps");
            int taps = number(4, MAX_TAPS);
            expect("vrefs");
            int vrefs = number(1, MAX_VREFS);
            expect(";");
            link = new Link(step, taps, vrefs);
        }

        private void parseStatement() {
            if (is("rate")) {
                parseRate();
            } else if (is("lane")) {
                parseLane();
            } else if (is("pattern")) {
                parsePattern();
            } else if (is("stress")) {
                parseStress();
            } else if (is("margin")) {
                parseMargin();
            } else if (is("fallback")) {
                parseFallback();
            } else {
                fail(MISPLACED);
            }
        }

        private void parseRate() {
            begin(link.rates.count() >= MAX_RATES);
            String name = newName(link.rates.numberOf(token));
            expect("period");
            int period = number(100, 2000);
            expect("jitter");
            int jitter = number(0, 200);
            expect(";");
            if (code == 0) {
                link.rates.add(new Rate(name, period, jitter));
            }
        }

        private void parseLane() {
            begin(link.lanes.count() >= MAX_LANES);
            String name = newName(link.lanes.numberOf(token));
            expect("skew");
            int skew = number(0, 4000);
            expect("width");
            int width = number(1, 1000);
            expect("vref");
            int vref = number(0, link.vrefs - 1);
            expect("slope");
            int slope = number(0, 200);
            boolean drifts = takes("drift");
            boolean isMinus = drifts && takes("minus");
            int drift = drifts ? number(0, 50) : 0;
            expect(";");
            if (code == 0) {
                link.lanes.add(new Lane(name, skew, width, vref, slope, isMinus ? -drift : drift));
            }
        }

        private void parsePattern() {
            begin(link.patterns.count() >= MAX_PATTERNS);
            String name = newName(link.patterns.numberOf(token));
            int count = token.length();
            int digits = digits();
            next();
            expect(";");
            if (code == 0) {
                link.patterns.add(new Pattern(name, count, digits));
            }
        }

        private void parseStress() {
            begin(hasStress);
            hasStress = true;
            expect("run");
            link.runStress = number(0, 50);
            expect("change");
            link.changeStress = number(0, 50);
            expect(";");
        }

        private void parseMargin() {
            begin(hasMargin);
            hasMargin = true;
            expect("time");
            link.timeNeeded = number(0, MAX_TIME_MARGIN);
            expect("volts");
            link.voltsNeeded = number(0, 8);
            expect(";");
        }

        private void parseFallback() {
            next();
            int from = rateHere();
            if (from != NONE && link.rates.at(from).fallback != NONE) {
                fail(WRONG_NAME);
            }
            next();
            expect("to");
            int to = rateHere();
            next();
            expect(";");
            if (code == 0) {
                link.rates.at(from).fallback = to;
            }
        }

        private void begin(boolean isTooMany) {
            if (isTooMany) {
                fail(TOO_MANY);
            }
            next();
        }

        private void expect(String due) {
            if (!takes(due)) {
                fail(MISPLACED);
            }
        }

        private boolean takes(String word) {
            if (!is(word)) {
                return false;
            }
            next();
            return true;
        }

        private int number(int low, int high) {
            if (token.isEmpty() || !isDigit(token.charAt(0))) {
                fail(MISPLACED);
                return low;
            }
            int value = 0;
            for (int i = 0; i < token.length(); i++) {
                value = Math.min(10 * value + (token.charAt(i) - '0'), HUGE);
            }
            if (value < low || value > high) {
                fail(OUT_OF_RANGE);
                return low;
            }
            next();
            return value;
        }

        private int digits() {
            if (token.isEmpty() || token.length() > MAX_BITS) {
                fail(MISPLACED);
                return 0;
            }
            int digits = 0;
            for (int i = 0; i < token.length(); i++) {
                char digit = token.charAt(i);
                if (digit != '0' && digit != '1') {
                    fail(MISPLACED);
                } else {
                    digits |= (digit - '0') << i;
                }
            }
            return digits;
        }

        /** Reads the name here, of which the number tells the thing of the same kind that has it already. */
        private String newName(int bearer) {
            requireName();
            if (bearer != NONE) {
                fail(WRONG_NAME);
            }
            String name = token;
            next();
            return name;
        }

        private int rateHere() {
            requireName();
            int rate = link.rates.numberOf(token);
            if (rate == NONE) {
                fail(WRONG_NAME);
            }
            return rate;
        }

        private void requireName() {
            boolean isWord = !token.isEmpty() && isLetter(token.charAt(0));
            if (!isWord || token.length() > MAX_NAME || isKeyword(token)) {
                fail(MISPLACED);
            }
        }

        private static boolean isKeyword(String word) {
            return word.equals("link") || word.equals("step") || word.equals("taps") || word.equals("vrefs")
                    || word.equals("rate") || word.equals("period") || word.equals("jitter")
                    || word.equals("lane") || word.equals("skew") || word.equals("width") || word.equals("vref")
                    || word.equals("slope") || word.equals("drift") || word.equals("minus")
                    || word.equals("pattern") || word.equals("stress") || word.equals("run")
                    || word.equals("change") || word.equals("margin") || word.equals("time")
                    || word.equals("volts") || word.equals("fallback") || word.equals("to");
        }

        private boolean is(String word) {
            return token.equals(word);
        }

        private void fail(int why) {
            if (code == 0) {
                code = why;
                position = start;
            }
        }

        private void next() {
            start = end;
            while (start < text.length() && (text.charAt(start) == ' ' || text.charAt(start) == '\n')) {
                start++;
            }
            end = start;
            boolean isWord = start < text.length() && isLetter(text.charAt(start));
            boolean isNumber = start < text.length() && isDigit(text.charAt(start));
            signs.setLength(0);
            while (end < text.length() && (end == start || isWord && isLetter(text.charAt(end))
                    || isNumber && isDigit(text.charAt(end)))) {
                signs.append(text.charAt(end));
                end++;
            }
            token = signs.toString();
        }
    }

    /** All that undo() brings back. */
    private static final class State {
        Link link;
        int rate = NONE;
        int temperature = 0;
        boolean trained = false;
        int bit = 0;
        private final int[] taps = new int[MAX_LANES];
        private final int[] vrefs = new int[MAX_LANES];
        final int[] logRates = new int[MAX_LOG];
        final int[] logScores = new int[MAX_LOG];
        int logCount = 0;

        State(Link link) {
            this.link = link;
        }

        void begin(Link loaded) {
            link = loaded;
            rate = 0;
            temperature = 0;
            trained = false;
            logCount = 0;
        }

        void take(State other) {
            link = other.link;
            rate = other.rate;
            temperature = other.temperature;
            trained = other.trained;
            bit = other.bit;
            System.arraycopy(other.taps, 0, taps, 0, MAX_LANES);
            System.arraycopy(other.vrefs, 0, vrefs, 0, MAX_LANES);
            System.arraycopy(other.logRates, 0, logRates, 0, MAX_LOG);
            System.arraycopy(other.logScores, 0, logScores, 0, MAX_LOG);
            logCount = other.logCount;
        }

        int tapOf(int lane) {
            return lane >= 0 && lane < MAX_LANES ? taps[lane] : 0;
        }

        int vrefOf(int lane) {
            return lane >= 0 && lane < MAX_LANES ? vrefs[lane] : 0;
        }

        void settle(int lane, int tap, int vref) {
            if (lane >= 0 && lane < MAX_LANES) {
                taps[lane] = tap;
                vrefs[lane] = vref;
            }
        }

        void record(int attemptedRate, int score) {
            if (logCount >= MAX_LOG) {
                System.arraycopy(logRates, 1, logRates, 0, MAX_LOG - 1);
                System.arraycopy(logScores, 1, logScores, 0, MAX_LOG - 1);
                logCount = MAX_LOG - 1;
            }
            logRates[logCount] = attemptedRate;
            logScores[logCount] = score;
            logCount++;
        }
    }

    /** The search for the edges of an eye, which counts the tests of single patterns. */
    private static final class Bisection {
        private final Link link;
        private final Rate rate;
        private final Lane lane;
        private final int half;
        private final int temperature;
        private final int reach;
        int tests = 0;

        Bisection(Link link, Rate rate, Lane lane, int vref, int temperature) {
            this.link = link;
            this.rate = rate;
            this.lane = lane;
            this.half = lane.halfAt(rate, vref);
            this.temperature = temperature;
            this.reach = Math.max(rate.period / (2 * Math.max(link.step, 1)), 1);
        }

        int lowEdge(int tap) {
            int low = Math.max(-1, tap - reach);
            int high = tap;
            for (int i = 0; i < MAX_TAPS && high - low > 1; i++) {
                int middle = (low + high) / 2;
                if (passes(middle)) {
                    high = middle;
                } else {
                    low = middle;
                }
            }
            return high;
        }

        int highEdge(int tap) {
            int low = tap;
            int high = Math.min(link.taps, tap + reach);
            for (int i = 0; i < MAX_TAPS && high - low > 1; i++) {
                int middle = (low + high) / 2;
                if (passes(middle)) {
                    low = middle;
                } else {
                    high = middle;
                }
            }
            return low;
        }

        private boolean passes(int tap) {
            int distance = rate.distanceOf(lane.offsetAt(tap * link.step, temperature));
            int missed = link.firstMissed(distance, half);
            tests += missed == NONE ? link.patterns.count() : missed + 1;
            return missed == NONE;
        }
    }

    /** One lane under given conditions, tap by tap; its rows are made once and filled by each look. */
    private static final class Scan {
        private final int[] bits = new int[MAX_TAPS];
        private final int[] distances = new int[MAX_TAPS];
        private final int[] halves = new int[MAX_VREFS];
        int taps = 0;
        int vrefs = 1;
        private int step = 1;
        private int period = 1;
        private int timeNeeded = 0;
        private int voltsNeeded = 0;
        int bestScore = NONE;
        int bestTap = NONE;
        int bestVref = NONE;

        void look(Link link, Rate rate, Lane lane, int temperature, int penalty) {
            taps = Math.min(link.taps, MAX_TAPS);
            vrefs = Math.max(1, Math.min(link.vrefs, MAX_VREFS));
            step = link.step;
            period = Math.max(rate.period, 1);
            timeNeeded = link.timeNeeded;
            voltsNeeded = link.voltsNeeded;
            for (int tap = 0; tap < taps; tap++) {
                int offset = lane.offsetAt(tap * step, temperature);
                bits[tap] = rate.bitOf(offset);
                distances[tap] = Math.abs(offset - bits[tap] * period);
            }
            for (int vref = 0; vref < vrefs; vref++) {
                halves[vref] = lane.halfAt(rate, vref) - penalty;
            }
        }

        int bitOf(int tap) {
            return tap >= 0 && tap < taps ? bits[tap] : 0;
        }

        /** The first tap whose bit is at least this one, for bits never fall from tap to tap. */
        int firstTap(int bit) {
            int tap = 0;
            while (tap < taps && bits[tap] < bit) {
                tap++;
            }
            return tap;
        }

        boolean open(int tap, int vref) {
            return tap >= 0 && tap < taps && vref >= 0 && vref < vrefs && distances[tap] <= halves[vref];
        }

        private boolean sharesEye(int tap, int neighbour, int vref) {
            return open(tap, vref) && open(neighbour, vref) && bits[tap] == bits[neighbour];
        }

        boolean startsEye(int tap, int vref) {
            return open(tap, vref) && !(open(tap - 1, vref) && bits[tap - 1] == bits[tap]);
        }

        int startOfEye(int index, int vref) {
            int eyes = 0;
            for (int tap = 0; tap < taps; tap++) {
                if (startsEye(tap, vref)) {
                    if (eyes == index) {
                        return tap;
                    }
                    eyes++;
                }
            }
            return NONE;
        }

        int lastOfEye(int tap, int vref) {
            int last = tap;
            while (last < taps && sharesEye(last, last + 1, vref)) {
                last++;
            }
            return last;
        }

        private int firstOfEye(int tap, int vref) {
            int first = tap;
            while (first > 0 && sharesEye(first, first - 1, vref)) {
                first--;
            }
            return first;
        }

        int area(int bit) {
            int area = 0;
            int end = firstTap(bit + 1);
            for (int tap = firstTap(bit); tap < end; tap++) {
                for (int vref = 0; vref < vrefs; vref++) {
                    if (open(tap, vref)) {
                        area++;
                    }
                }
            }
            return area;
        }

        private int timeRoomIn(int first, int last, int tap) {
            return step * Math.min(tap - first, last - tap);
        }

        int timeRoom(int tap, int vref) {
            return timeRoomIn(firstOfEye(tap, vref), lastOfEye(tap, vref), tap);
        }

        int voltRoom(int tap, int vref) {
            int room = 0;
            while (room < vrefs && open(tap, vref - room - 1) && open(tap, vref + room + 1)) {
                room++;
            }
            return room;
        }

        private int worth(int time, int volts) {
            return Math.min(100 * time / period, 100 * (2 * volts + 1) / vrefs);
        }

        int worthOf(int tap, int vref) {
            return open(tap, vref) ? worth(timeRoom(tap, vref), voltRoom(tap, vref)) : NONE;
        }

        /** Leaves the best setting for a bit, among some reference voltages, in the three fields. */
        void seek(int bit, int firstVref, int lastVref) {
            bestScore = NONE;
            bestTap = NONE;
            bestVref = NONE;
            int begin = firstTap(bit);
            int end = firstTap(bit + 1);
            for (int vref = firstVref; vref <= lastVref; vref++) {
                for (int tap = begin; tap < end; tap++) {
                    if (startsEye(tap, vref)) {
                        seekInEye(tap, lastOfEye(tap, vref), vref);
                    }
                }
            }
        }

        private void seekInEye(int first, int last, int vref) {
            for (int tap = first; tap <= last; tap++) {
                int time = timeRoomIn(first, last, tap);
                // The voltages are dear to look at: only where the time alone allows a better score.
                if (time >= timeNeeded && 100 * time / period > bestScore) {
                    int volts = voltRoom(tap, vref);
                    int score = worth(time, volts);
                    if (volts >= voltsNeeded && score > bestScore) {
                        bestScore = score;
                        bestTap = tap;
                        bestVref = vref;
                    }
                }
            }
        }

        /** The greatest time margin for a bit where the voltage margin is enough; NONE if there is none. */
        int widest(int bit) {
            int widest = NONE;
            int begin = firstTap(bit);
            int end = firstTap(bit + 1);
            for (int vref = 0; vref < vrefs; vref++) {
                for (int tap = begin; tap < end; tap++) {
                    if (startsEye(tap, vref)) {
                        widest = widestInEye(tap, lastOfEye(tap, vref), vref, widest);
                    }
                }
            }
            return widest;
        }

        private int widestInEye(int first, int last, int vref, int known) {
            int widest = known;
            for (int tap = first; tap <= last; tap++) {
                int time = timeRoomIn(first, last, tap);
                if (time > widest && voltRoom(tap, vref) >= voltsNeeded) {
                    widest = time;
                }
            }
            return widest;
        }
    }

    /** All lanes under the same conditions. */
    private static final class Survey {
        final ArrayList<Scan> scans = new ArrayList<>();
        int lanes = 0;
        int chosenBit = 0;
        private int vrefs = 1;
        private int lowBit = 0;
        private int highBit = 0;

        Survey() {
            for (int i = 0; i < MAX_LANES; i++) {
                scans.add(new Scan());
            }
        }

        void prepare(Link link, Rate rate, int temperature, int skippedPattern) {
            int penalty = link.worstPenalty(skippedPattern);
            lanes = Math.min(link.lanes.count(), scans.size());
            vrefs = link.vrefs;
            lowBit = -MAX_BIT;
            highBit = MAX_BIT;
            for (int lane = 0; lane < lanes; lane++) {
                Scan scan = scans.get(lane);
                scan.look(link, rate, link.lanes.at(lane), temperature, penalty);
                // A bit that some lane never samples needs no search.
                lowBit = Math.max(lowBit, scan.bitOf(0));
                highBit = Math.min(highBit, scan.bitOf(scan.taps - 1));
            }
        }

        int scoreFor(int bit, int firstVref, int lastVref) {
            int smallest = NONE;
            for (int lane = 0; lane < lanes; lane++) {
                Scan scan = scans.get(lane);
                scan.seek(bit, firstVref, lastVref);
                if (scan.bestScore == NONE) {
                    return NONE;
                }
                smallest = smallest == NONE ? scan.bestScore : Math.min(smallest, scan.bestScore);
            }
            return smallest;
        }

        int trainable() {
            int count = 0;
            for (int bit = lowBit; bit <= highBit; bit++) {
                if (scoreFor(bit, 0, vrefs - 1) != NONE) {
                    count++;
                }
            }
            return count;
        }

        /** Leaves the bit of training in its field; the answer is its score, NONE if training fails. */
        int choose() {
            int greatest = NONE;
            for (int bit = lowBit; bit <= highBit; bit++) {
                int score = scoreFor(bit, 0, vrefs - 1);
                if (score > greatest) {
                    greatest = score;
                    chosenBit = bit;
                }
            }
            return greatest;
        }

        /** The greatest time margin that may be required; NONE if training fails with every one. */
        int greatestTime() {
            int greatest = NONE;
            for (int bit = lowBit; bit <= highBit; bit++) {
                greatest = Math.max(greatest, timeFor(bit));
            }
            return greatest;
        }

        private int timeFor(int bit) {
            int narrowest = MAX_TIME_MARGIN;
            for (int lane = 0; lane < lanes; lane++) {
                narrowest = Math.min(narrowest, scans.get(lane).widest(bit));
            }
            return narrowest;
        }
    }
}
