import java.util.ArrayList;
import java.util.HashMap;
import java.util.List;
import java.util.Map;
import java.util.NoSuchElementException;
import java.util.Set;
import java.util.TreeSet;

/**
 * The paragraph EXCEPTIONS of the document: every method with every mixture of inputs just inside and just outside of
 * their ranges, in several states of the object. What is refused changes nothing, seen by a twin to which the call was
 * not made.
 */
public final class ExceptionBoundsTest {
    private static final String INDEX = IndexOutOfBoundsException.class.getName();
    private static final String ARGUMENT = IllegalArgumentException.class.getName();
    private static final String STATE = IllegalStateException.class.getName();
    private static final String ELEMENT = NoSuchElementException.class.getName();

    private enum Condition { NEW, LOADED, SHUT, TRAINED, FULL }

    private ExceptionBoundsTest() { }

    // The states: two rates, two lanes, two patterns, 32 taps, 3 voltages; the input holds a text that loads.

    private static final String OPEN = "link step 10 taps 32 vrefs 3;rate f period 100 jitter 0;rate s period 200 jitter 0;"
            + "lane a skew 50 width 1000 vref 1 slope 0;lane b skew 50 width 1000 vref 1 slope 0;"
            + "pattern p 01;pattern q 1;fallback f to s;";

    private static LinkTraining in(Condition condition) {
        LinkTraining x = new LinkTraining();
        if (condition == Condition.SHUT) {
            Feed.load(x, OPEN.replace("width 1000", "width 1").replace("jitter 0", "jitter 1"));
        } else if (condition != Condition.NEW) {
            Feed.load(x, OPEN);
        }
        for (int i = 0; i < 30 && condition == Condition.FULL; i++) {
            x.train();
        }
        if (condition == Condition.TRAINED || condition == Condition.FULL) {
            x.train();
            x.set(1, 6, 2);
            x.writeSettings();
            x.setTemperature(20);
        }
        if (condition != Condition.NEW) {
            Feed.load(x, "link 7");
        }
        Feed.text(x, Links.DRIFT + " ".repeat(condition == Condition.FULL ? 1400 - Links.DRIFT.length() : 0));
        return x;
    }

    private static int inputLength(Condition condition) {
        return condition == Condition.FULL ? 1400 : Links.DRIFT.length();
    }

    /** The least and the greatest input of this kind; the greatest is less where there is none. */
    private static int[] range(String input, Condition condition) {
        boolean isNew = condition == Condition.NEW;
        return switch (input) {
            case "lane", "rate", "pattern" -> new int[] {0, isNew ? -1 : 1};
            case "tap" -> new int[] {0, isNew ? 3 : 31};
            case "vref" -> new int[] {0, isNew ? 0 : 2};
            case "bit" -> new int[] {-100, 100};
            case "kind", "what3" -> new int[] {0, 2};
            case "what", "flag" -> new int[] {0, 1};
            case "temperature" -> new int[] {-400, 1250};
            case "length" -> new int[] {0, inputLength(condition)};
            case "eye" -> new int[] {0, condition == Condition.SHUT ? -1 : 3};
            case "entry" -> new int[] {0, condition == Condition.FULL ? 29 : condition == Condition.TRAINED ? 0 : -1};
            case "byte" -> new int[] {0, condition == Condition.FULL || condition == Condition.TRAINED ? 11 : -1};
            default -> throw new AssertionError(input);
        };
    }

    private static String exceptionOf(String input) {
        return switch (input) {
            case "lane", "rate", "pattern", "entry", "byte" -> INDEX;
            case "eye" -> ELEMENT;
            default -> ARGUMENT;
        };
    }

    private static boolean meets(Methods.Need need, Condition condition) {
        boolean isTrained = condition == Condition.TRAINED || condition == Condition.FULL;
        return switch (need) {
            case NOTHING -> true;
            case RATE -> condition != Condition.NEW;
            case WORKING -> condition != Condition.NEW && condition != Condition.SHUT;
            case TRAINED, HOLDING -> isTrained;
        };
    }

    /** The exception that is named first of all that apply; nothing if none does. */
    private static String due(Methods.Entry entry, Condition condition, int[] in) {
        List<String> apply = new ArrayList<>();
        for (int i = 0; i < in.length; i++) {
            int[] range = range(entry.inputs()[i], condition);
            if (in[i] < range[0] || in[i] > range[1]) {
                apply.add(exceptionOf(entry.inputs()[i]));
            }
        }
        if (!meets(entry.need(), condition)) {
            apply.add(STATE);
        }
        for (String first : new String[] {INDEX, ARGUMENT, STATE, ELEMENT}) {
            if (apply.contains(first)) {
                return first;
            }
        }
        return "";
    }

    private static final Map<Condition, String> UNCHANGED = new HashMap<>();

    private static void call(Methods.Entry entry, Condition condition, int[] in) {
        LinkTraining x = in(condition);
        Object answer = Check.answer(x, y -> entry.method().on(y, in));
        String due = due(entry, condition, in);
        String what = entry.name() + java.util.Arrays.toString(in) + " when " + condition;
        Sentence.same(what, answer instanceof String ? answer : "", due);
        if (!due.isEmpty()) {
            String unchanged = UNCHANGED.computeIfAbsent(condition, c -> Look.through(in(c), inputLength(c)));
            Sentence.same("all that is seen after " + what, Look.through(x, inputLength(condition)), unchanged);
        }
    }

    /** Every mixture of inputs from place to place on. */
    private static void mixtures(Methods.Entry entry, Condition condition, int[] in, int place) {
        if (place == in.length) {
            call(entry, condition, in.clone());
            return;
        }
        int[] range = range(entry.inputs()[place], condition);
        int[] tried = entry.inputs()[place].equals("flag") ? range
                : new int[] {range[0] - 1, range[0], range[1], range[1] + 1};
        for (int value : tried) {
            in[place] = value;
            mixtures(entry, condition, in, place + 1);
        }
    }

    /** The farthest inputs, one at a time; the others are just inside. */
    private static void farthest(Methods.Entry entry, Condition condition) {
        for (int place = 0; place < entry.inputs().length; place++) {
            for (int far : new int[] {Integer.MIN_VALUE, Integer.MAX_VALUE}) {
                int[] in = new int[entry.inputs().length];
                for (int i = 0; i < in.length; i++) {
                    in[i] = i == place ? far : range(entry.inputs()[i], condition)[0];
                }
                if (!entry.inputs()[place].equals("flag")) {
                    call(entry, condition, in);
                }
            }
        }
    }

    private static void everyMethod() {
        Sentence.of("every method of the face is in the table");
        Set<String> table = new TreeSet<>(Set.of("append", "undo"));
        Methods.all().forEach(entry -> table.add(entry.name()));
        Set<String> face = new TreeSet<>();
        for (java.lang.reflect.Method method : LinkTraining.class.getDeclaredMethods()) {
            if (java.lang.reflect.Modifier.isPublic(method.getModifiers())) {
                face.add(method.getName());
            }
        }
        Sentence.same("the table", table, face);
        for (Methods.Entry entry : Methods.all()) {
            Sentence.of(entry.name() + ": the exceptions that the document names, the first one of several; a call that throws "
                    + "changes nothing");
            for (Condition condition : Condition.values()) {
                mixtures(entry, condition, new int[entry.inputs().length], 0);
                farthest(entry, condition);
            }
        }
    }

    private static void otherStates() {
        Sentence.of("append: IllegalStateException if the buffer would hold more than 1400 bytes; nothing is changed");
        LinkTraining full = in(Condition.FULL);
        Sentence.same("append", Check.answer(full, y -> y.append(1, 2, 3, 4, 5)), STATE);
        Sentence.same("all that is seen after it", Look.through(full, 1400), UNCHANGED.get(Condition.FULL));
        Sentence.of("undo: IllegalStateException if there is nothing to undo; nothing is changed");
        LinkTraining first = in(Condition.NEW);
        Sentence.same("undo", Check.answer(first, LinkTraining::undo), STATE);
        Sentence.same("all that is seen after it", Look.through(first, inputLength(Condition.NEW)),
                UNCHANGED.get(Condition.NEW));
        Sentence.of("temperatureLimit: if the link is not trained, or failing() is not 0 now; nothing is changed");
        for (int lane = 0; lane < 2; lane++) {
            LinkTraining twin = in(Condition.TRAINED);
            LinkTraining x = in(Condition.TRAINED);
            twin.set(lane, 31, 0);
            x.set(lane, 31, 0);
            Sentence.same("upwards", Check.answer(x, y -> y.temperatureLimit(true)), STATE);
            Sentence.same("downwards", Check.answer(x, y -> y.temperatureLimit(false)), STATE);
            Sentence.same("all that is seen after it", Look.through(x, inputLength(Condition.TRAINED)),
                    Look.through(twin, inputLength(Condition.TRAINED)));
        }
    }

    /** Every method at inputs that are right only for a link. */
    private static void beforeALink(LinkTraining x, String when) {
        for (Methods.Entry entry : Methods.all()) {
            int[] in = new int[entry.inputs().length];
            boolean isChange = entry.name().equals("load") || entry.name().equals("setTemperature") || entry.name().equals("find");
            if (!isChange) {
                Object answer = Check.answer(x, y -> entry.method().on(y, in));
                Sentence.same(entry.name() + " " + when, answer instanceof String ? answer : "",
                        due(entry, Condition.NEW, in));
            }
        }
        Sentence.same("rate " + when, x.rate(), LinkTraining.NONE);
        Sentence.same("temperature " + when, x.temperature(), 0);
        Sentence.same("worstPattern " + when, x.worstPattern(), LinkTraining.NONE);
        Sentence.same("fastestRate " + when, x.fastestRate(), LinkTraining.NONE);
        Sentence.same("counts " + when, x.rateCount() + x.laneCount() + x.patternCount() + x.logSize(), 0);
        Sentence.same("isTrained " + when, x.isTrained(), false);
    }

    private static void withoutALink() {
        Sentence.of("Before the first successful load() there are no rates, lanes and patterns; without a rate, methods that "
                + "need the present rate and have a throws clause with IllegalStateException throw that exception.");
        beforeALink(new LinkTraining(), "of a new object");
        LinkTraining failed = new LinkTraining();
        Feed.load(failed, OPEN + "?");
        beforeALink(failed, "after a load that failed");
        LinkTraining undone = Feed.loaded(OPEN);
        undone.undo();
        beforeALink(undone, "after undo of the first load");
        Sentence.of("setTemperature before the first load()");
        LinkTraining x = new LinkTraining();
        Sentence.same("to the highest", x.setTemperature(1250), 0);
        Sentence.same("to the lowest", x.setTemperature(-400), 1250);
        Sentence.same("load", Feed.load(x, OPEN), 2);
        Sentence.same("the temperature of the loaded link", x.temperature(), 0);
        Sentence.same("undo of load", x.undo(), 2);
        Sentence.same("the temperature before it", x.temperature(), -400);
    }

    private static void constants() {
        Sentence.of("NONE = -1: No such value. PARSE_ERROR = -4: The text has a parse error.");
        Sentence.same("NONE", LinkTraining.NONE, -1);
        Sentence.same("PARSE_ERROR", LinkTraining.PARSE_ERROR, -4);
        Sentence.same("load of nothing", new LinkTraining().load(), -4);
    }

    public static void main(String[] args) {
        everyMethod();
        otherStates();
        withoutALink();
        constants();
        Sentence.end();
    }
}
