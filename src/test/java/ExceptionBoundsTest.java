import java.util.ArrayList;
import java.util.HashMap;
import java.util.List;
import java.util.Map;
import java.util.NoSuchElementException;

/**
 * The paragraph EXCEPTIONS of the document: every method with every mixture of inputs just inside and just outside of
 * their ranges, in several states of the object. What is refused changes nothing, seen by a twin to which the call was
 * not made.
 */
public final class ExceptionBoundsTest {
    private static final String INDEX = IndexOutOfBoundsException.class.getName();
    private static final String ARGUMENT = IllegalArgumentException.class.getName();
    private static final String STATE = IllegalStateException.class.getName();
    private static final String ELEMENT = NoSuchElementException.class.getName();

    private enum Condition { NEW, LOADED, SHUT, TRAINED, FULL }

    /** What a call needs besides its inputs. */
    private enum Need { NOTHING, RATE, WORKING, TRAINED, HOLDING }

    private interface Method {
        Object on(LinkTraining x, int[] in);
    }

    private record Entry(String name, Need need, String[] inputs, Method method) { }

    private static final List<Entry> ENTRIES = new ArrayList<>();

    private ExceptionBoundsTest() { }

    private static void add(String spec, Need need, Method method) {
        String[] words = spec.split(" ");
        ENTRIES.add(new Entry(words[0], need, java.util.Arrays.copyOfRange(words, 1, words.length), method));
    }

    private static Object cut(LinkTraining x, int length) {
        x.truncate(length);
        return true;
    }

    private static void changes() {
        add("truncate length", Need.NOTHING, (x, in) -> cut(x, in[0]));
        add("find kind", Need.NOTHING, (x, in) -> x.find(in[0]));
        add("setRate rate", Need.NOTHING, (x, in) -> x.setRate(in[0]));
        add("setTemperature temperature", Need.NOTHING, (x, in) -> x.setTemperature(in[0]));
        add("train", Need.RATE, (x, in) -> x.train());
        add("trainWithFallback", Need.RATE, (x, in) -> x.trainWithFallback());
        add("retrain lane", Need.TRAINED, (x, in) -> x.retrain(in[0]));
        add("set lane tap vref", Need.TRAINED, (x, in) -> x.set(in[0], in[1], in[2]));
        add("writeSettings", Need.TRAINED, (x, in) -> x.writeSettings());
        add("load", Need.NOTHING, (x, in) -> x.load());
    }

    private static void plainQuestions() {
        add("errorCode", Need.NOTHING, (x, in) -> x.errorCode());
        add("errorPosition", Need.NOTHING, (x, in) -> x.errorPosition());
        add("rateCount", Need.NOTHING, (x, in) -> x.rateCount());
        add("laneCount", Need.NOTHING, (x, in) -> x.laneCount());
        add("patternCount", Need.NOTHING, (x, in) -> x.patternCount());
        add("rate", Need.NOTHING, (x, in) -> x.rate());
        add("temperature", Need.NOTHING, (x, in) -> x.temperature());
        add("worstPattern", Need.NOTHING, (x, in) -> x.worstPattern());
        add("fastestRate", Need.NOTHING, (x, in) -> x.fastestRate());
        add("isTrained", Need.NOTHING, (x, in) -> x.isTrained());
        add("logSize", Need.NOTHING, (x, in) -> x.logSize());
        add("longestRun pattern", Need.NOTHING, (x, in) -> x.longestRun(in[0]));
        add("changes pattern", Need.NOTHING, (x, in) -> x.changes(in[0]));
        add("penalty pattern", Need.NOTHING, (x, in) -> x.penalty(in[0]));
        add("offset lane tap", Need.NOTHING, (x, in) -> x.offset(in[0], in[1]));
        add("scoreAt rate", Need.NOTHING, (x, in) -> x.scoreAt(in[0]));
        add("fallbackFrom rate", Need.NOTHING, (x, in) -> x.fallbackFrom(in[0]));
        add("logEntry entry what", Need.NOTHING, (x, in) -> x.logEntry(in[0], in[1]));
        add("outputByte byte", Need.NOTHING, (x, in) -> x.outputByte(in[0]));
    }

    private static void questionsOfARate() {
        add("bitAt lane tap", Need.RATE, (x, in) -> x.bitAt(in[0], in[1]));
        add("phase lane tap", Need.RATE, (x, in) -> x.phase(in[0], in[1]));
        add("half lane vref pattern", Need.RATE, (x, in) -> x.half(in[0], in[1], in[2]));
        add("test lane tap vref pattern", Need.RATE, (x, in) -> x.test(in[0], in[1], in[2], in[3]));
        add("works lane tap vref", Need.RATE, (x, in) -> x.works(in[0], in[1], in[2]));
        add("firstFailure lane tap vref", Need.RATE, (x, in) -> x.firstFailure(in[0], in[1], in[2]));
        add("eyeCount lane vref", Need.RATE, (x, in) -> x.eyeCount(in[0], in[1]));
        add("eye lane vref eye what3", Need.RATE, (x, in) -> x.eye(in[0], in[1], in[2], in[3]));
        add("eyeArea lane bit", Need.RATE, (x, in) -> x.eyeArea(in[0], in[1]));
        add("eyeFill lane bit", Need.RATE, (x, in) -> x.eyeFill(in[0], in[1]));
        add("eyeHeight lane tap", Need.RATE, (x, in) -> x.eyeHeight(in[0], in[1]));
        add("firstEdge lane tap vref", Need.WORKING, (x, in) -> x.firstEdge(in[0], in[1], in[2]));
        add("lastEdge lane tap vref", Need.WORKING, (x, in) -> x.lastEdge(in[0], in[1], in[2]));
        add("edgeTests lane tap vref", Need.WORKING, (x, in) -> x.edgeTests(in[0], in[1], in[2]));
        add("timeMargin lane tap vref", Need.RATE, (x, in) -> x.timeMargin(in[0], in[1], in[2]));
        add("voltageMargin lane tap vref", Need.RATE, (x, in) -> x.voltageMargin(in[0], in[1], in[2]));
        add("score lane tap vref", Need.RATE, (x, in) -> x.score(in[0], in[1], in[2]));
        add("bestTap lane bit", Need.RATE, (x, in) -> x.bestTap(in[0], in[1]));
        add("bestVref lane bit", Need.RATE, (x, in) -> x.bestVref(in[0], in[1]));
        add("scoreOf bit", Need.RATE, (x, in) -> x.scoreOf(in[0]));
        add("trainableBits", Need.RATE, (x, in) -> x.trainableBits());
        add("scoreWithout pattern", Need.RATE, (x, in) -> x.scoreWithout(in[0]));
        add("greatestMargin", Need.RATE, (x, in) -> x.greatestMargin());
        add("sharedVref bit", Need.RATE, (x, in) -> x.sharedVref(in[0]));
    }

    private static void questionsOfTraining() {
        add("trainedBit", Need.TRAINED, (x, in) -> x.trainedBit());
        add("setting lane what", Need.TRAINED, (x, in) -> x.setting(in[0], in[1]));
        add("failing", Need.TRAINED, (x, in) -> x.failing());
        add("weakestLane", Need.TRAINED, (x, in) -> x.weakestLane());
        add("receive lane pattern", Need.TRAINED, (x, in) -> x.receive(in[0], in[1]));
        add("temperatureLimit flag", Need.HOLDING, (x, in) -> x.temperatureLimit(in[0] == 1));
    }

    // The states: two rates, two lanes, two patterns, 32 taps, 3 voltages; the input holds a text that loads.

    private static final String OPEN = "link step 10 taps 32 vrefs 3;rate f period 100 jitter 0;rate s period 200 jitter 0;"
            + "lane a skew 50 width 1000 vref 1 slope 0;lane b skew 50 width 1000 vref 1 slope 0;"
            + "pattern p 01;pattern q 1;fallback f to s;";

    private static LinkTraining in(Condition condition) {
        LinkTraining x = new LinkTraining();
        if (condition == Condition.SHUT) {
            Feed.load(x, OPEN.replace("width 1000", "width 1").replace("jitter 0", "jitter 1"));
        } else if (condition != Condition.NEW) {
            Feed.load(x, OPEN);
        }
        for (int i = 0; i < 30 && condition == Condition.FULL; i++) {
            x.train();
        }
        if (condition == Condition.TRAINED || condition == Condition.FULL) {
            x.train();
            x.set(1, 6, 2);
            x.writeSettings();
            x.setTemperature(20);
        }
        if (condition != Condition.NEW) {
            Feed.load(x, "link 7");
        }
        Feed.text(x, Links.DRIFT + " ".repeat(condition == Condition.FULL ? 1400 - Links.DRIFT.length() : 0));
        return x;
    }

    private static int inputLength(Condition condition) {
        return condition == Condition.FULL ? 1400 : Links.DRIFT.length();
    }

    /** The least and the greatest input of this kind; the greatest is less where there is none. */
    private static int[] range(String input, Condition condition) {
        boolean isNew = condition == Condition.NEW;
        return switch (input) {
            case "lane", "rate", "pattern" -> new int[] {0, isNew ? -1 : 1};
            case "tap" -> new int[] {0, isNew ? 3 : 31};
            case "vref" -> new int[] {0, isNew ? 0 : 2};
            case "bit" -> new int[] {-100, 100};
            case "kind", "what3" -> new int[] {0, 2};
            case "what", "flag" -> new int[] {0, 1};
            case "temperature" -> new int[] {-400, 1250};
            case "length" -> new int[] {0, inputLength(condition)};
            case "eye" -> new int[] {0, condition == Condition.SHUT ? -1 : 3};
            case "entry" -> new int[] {0, condition == Condition.FULL ? 29 : condition == Condition.TRAINED ? 0 : -1};
            case "byte" -> new int[] {0, condition == Condition.FULL || condition == Condition.TRAINED ? 11 : -1};
            default -> throw new AssertionError(input);
        };
    }

    private static String exceptionOf(String input) {
        return switch (input) {
            case "lane", "rate", "pattern", "entry", "byte" -> INDEX;
            case "eye" -> ELEMENT;
            default -> ARGUMENT;
        };
    }

    private static boolean meets(Need need, Condition condition) {
        boolean isTrained = condition == Condition.TRAINED || condition == Condition.FULL;
        return switch (need) {
            case NOTHING -> true;
            case RATE -> condition != Condition.NEW;
            case WORKING -> condition != Condition.NEW && condition != Condition.SHUT;
            case TRAINED, HOLDING -> isTrained;
        };
    }

    /** The exception that is named first of all that apply; nothing if none does. */
    private static String due(Entry entry, Condition condition, int[] in) {
        List<String> apply = new ArrayList<>();
        for (int i = 0; i < in.length; i++) {
            int[] range = range(entry.inputs[i], condition);
            if (in[i] < range[0] || in[i] > range[1]) {
                apply.add(exceptionOf(entry.inputs[i]));
            }
        }
        if (!meets(entry.need, condition)) {
            apply.add(STATE);
        }
        for (String first : new String[] {INDEX, ARGUMENT, STATE, ELEMENT}) {
            if (apply.contains(first)) {
                return first;
            }
        }
        return "";
    }

    private static final Map<Condition, String> UNCHANGED = new HashMap<>();

    private static void call(Entry entry, Condition condition, int[] in) {
        LinkTraining x = in(condition);
        Object answer = Check.answer(x, y -> entry.method.on(y, in));
        String due = due(entry, condition, in);
        String what = entry.name + java.util.Arrays.toString(in) + " when " + condition;
        Sentence.same(what, answer instanceof String ? answer : "", due);
        if (!due.isEmpty()) {
            String unchanged = UNCHANGED.computeIfAbsent(condition, c -> Look.through(in(c), inputLength(c)));
            Sentence.same("all that is seen after " + what, Look.through(x, inputLength(condition)), unchanged);
        }
    }

    /** Every mixture of inputs from place to place on. */
    private static void mixtures(Entry entry, Condition condition, int[] in, int place) {
        if (place == in.length) {
            call(entry, condition, in.clone());
            return;
        }
        int[] range = range(entry.inputs[place], condition);
        int[] tried = entry.inputs[place].equals("flag") ? range
                : new int[] {range[0] - 1, range[0], range[1], range[1] + 1};
        for (int value : tried) {
            in[place] = value;
            mixtures(entry, condition, in, place + 1);
        }
    }

    /** The farthest inputs, one at a time; the others are just inside. */
    private static void farthest(Entry entry, Condition condition) {
        for (int place = 0; place < entry.inputs.length; place++) {
            for (int far : new int[] {Integer.MIN_VALUE, Integer.MAX_VALUE}) {
                int[] in = new int[entry.inputs.length];
                for (int i = 0; i < in.length; i++) {
                    in[i] = i == place ? far : range(entry.inputs[i], condition)[0];
                }
                if (!entry.inputs[place].equals("flag")) {
                    call(entry, condition, in);
                }
            }
        }
    }

    private static void everyMethod() {
        changes();
        plainQuestions();
        questionsOfARate();
        questionsOfTraining();
        for (Entry entry : ENTRIES) {
            Sentence.of(entry.name + ": the exceptions that the document names, the first one of several; a call that throws "
                    + "changes nothing");
            for (Condition condition : Condition.values()) {
                mixtures(entry, condition, new int[entry.inputs.length], 0);
                farthest(entry, condition);
            }
        }
    }

    private static void otherStates() {
        Sentence.of("append: IllegalStateException if the buffer would hold more than 1400 bytes; nothing is changed");
        LinkTraining full = in(Condition.FULL);
        Sentence.same("append", Check.answer(full, y -> y.append(1, 2, 3, 4, 5)), STATE);
        Sentence.same("all that is seen after it", Look.through(full, 1400), UNCHANGED.get(Condition.FULL));
        Sentence.of("undo: IllegalStateException if there is nothing to undo; nothing is changed");
        LinkTraining first = in(Condition.NEW);
        Sentence.same("undo", Check.answer(first, LinkTraining::undo), STATE);
        Sentence.same("all that is seen after it", Look.through(first, inputLength(Condition.NEW)),
                UNCHANGED.get(Condition.NEW));
        Sentence.of("temperatureLimit: if the link is not trained, or failing() is not 0 now; nothing is changed");
        for (int lane = 0; lane < 2; lane++) {
            LinkTraining twin = in(Condition.TRAINED);
            LinkTraining x = in(Condition.TRAINED);
            twin.set(lane, 31, 0);
            x.set(lane, 31, 0);
            Sentence.same("upwards", Check.answer(x, y -> y.temperatureLimit(true)), STATE);
            Sentence.same("downwards", Check.answer(x, y -> y.temperatureLimit(false)), STATE);
            Sentence.same("all that is seen after it", Look.through(x, inputLength(Condition.TRAINED)),
                    Look.through(twin, inputLength(Condition.TRAINED)));
        }
    }

    /** Every method at inputs that are right only for a link. */
    private static void beforeALink(LinkTraining x, String when) {
        for (Entry entry : ENTRIES) {
            int[] in = new int[entry.inputs.length];
            boolean isChange = entry.name.equals("load") || entry.name.equals("setTemperature") || entry.name.equals("find");
            if (!isChange) {
                Object answer = Check.answer(x, y -> entry.method.on(y, in));
                Sentence.same(entry.name + " " + when, answer instanceof String ? answer : "",
                        due(entry, Condition.NEW, in));
            }
        }
        Sentence.same("rate " + when, x.rate(), LinkTraining.NONE);
        Sentence.same("temperature " + when, x.temperature(), 0);
        Sentence.same("worstPattern " + when, x.worstPattern(), LinkTraining.NONE);
        Sentence.same("fastestRate " + when, x.fastestRate(), LinkTraining.NONE);
        Sentence.same("counts " + when, x.rateCount() + x.laneCount() + x.patternCount() + x.logSize(), 0);
        Sentence.same("isTrained " + when, x.isTrained(), false);
    }

    private static void withoutALink() {
        Sentence.of("Before the first successful load() there are no rates, lanes and patterns; without a rate, methods that "
                + "need the present rate and have a throws clause with IllegalStateException throw that exception.");
        beforeALink(new LinkTraining(), "of a new object");
        LinkTraining failed = new LinkTraining();
        Feed.load(failed, OPEN + "?");
        beforeALink(failed, "after a load that failed");
        LinkTraining undone = Feed.loaded(OPEN);
        undone.undo();
        beforeALink(undone, "after undo of the first load");
        Sentence.of("setTemperature before the first load()");
        LinkTraining x = new LinkTraining();
        Sentence.same("to the highest", x.setTemperature(1250), 0);
        Sentence.same("to the lowest", x.setTemperature(-400), 1250);
        Sentence.same("load", Feed.load(x, OPEN), 2);
        Sentence.same("the temperature of the loaded link", x.temperature(), 0);
        Sentence.same("undo of load", x.undo(), 2);
        Sentence.same("the temperature before it", x.temperature(), -400);
    }

    private static void constants() {
        Sentence.of("NONE = -1: No such value. PARSE_ERROR = -4: The text has a parse error.");
        Sentence.same("NONE", LinkTraining.NONE, -1);
        Sentence.same("PARSE_ERROR", LinkTraining.PARSE_ERROR, -4);
        Sentence.same("load of nothing", new LinkTraining().load(), -4);
    }

    public static void main(String[] args) {
        everyMethod();
        otherStates();
        withoutALink();
        constants();
        Sentence.end();
    }
}
