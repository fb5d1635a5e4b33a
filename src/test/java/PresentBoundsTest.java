import java.util.ArrayList;
import java.util.Arrays;
import java.util.Collections;
import java.util.List;
import java.util.Random;
import java.util.Set;

/** "Methods that do not change the state use the present rate and temperature unless they say otherwise." */
public final class PresentBoundsTest {
    /** Answers that another present rate may change; some of those are refused after it, for the link is not trained. */
    private static final Set<String> OF_THE_RATE = Set.of("rate", "bitAt", "phase", "half", "test", "works", "firstFailure",
            "eyeCount", "eye", "eyeArea", "eyeFill", "eyeHeight", "firstEdge", "lastEdge", "edgeTests", "timeMargin",
            "voltageMargin", "score", "bestTap", "bestVref", "scoreOf", "trainableBits", "scoreWithout", "greatestMargin",
            "sharedVref");
    private static final Set<String> OF_THE_TEMPERATURE = Set.of("temperature", "offset", "bitAt", "phase", "test", "works",
            "firstFailure", "eyeCount", "eye", "eyeArea", "eyeFill", "eyeHeight", "firstEdge", "lastEdge", "edgeTests",
            "timeMargin", "voltageMargin", "score", "bestTap", "bestVref", "scoreOf", "trainableBits", "scoreAt",
            "fastestRate", "fallbackFrom", "scoreWithout", "greatestMargin", "sharedVref", "failing", "weakestLane",
            "receive");

    private static final String LINK = "link step 10 taps 56 vrefs 3;rate f period 120 jitter 10;rate s period 250 jitter 5;"
            + "lane a skew 70 width 900 vref 1 slope 9 drift 50;lane b skew 150 width 800 vref 2 slope 7 drift minus 40;"
            + "pattern p 010;pattern q 1100;stress run 4 change 3;margin time 10 volts 0;fallback f to s;";

    private PresentBoundsTest() { }

    /** Trained at rate 0 and temperature 0 if asked for, and then put to this rate and temperature. */
    private static LinkTraining at(boolean isTrained, int rate, int temperature) {
        LinkTraining x = Feed.loaded(LINK);
        if (isTrained) {
            x.train();
        }
        if (rate != 0) {
            x.setRate(rate);
        }
        if (temperature != 0) {
            x.setTemperature(temperature);
        }
        return x;
    }

    private static int[] samples(String input) {
        return switch (input) {
            case "lane", "rate", "pattern", "what", "flag" -> new int[] {0, 1};
            case "tap" -> new int[] {0, 3, 9, 10, 11, 12, 18, 55};
            case "vref", "what3", "eye" -> new int[] {0, 1, 2};
            case "bit" -> new int[] {-100, -1, 0, 1, 2};
            case "entry" -> new int[] {0};
            case "byte" -> new int[] {0};
            default -> throw new AssertionError(input);
        };
    }

    private record Question(Methods.Entry entry, int[] in) {
        Object of(LinkTraining x) {
            return Check.answer(x, y -> entry.method().on(y, in));
        }

        String shown() {
            return entry.name() + Arrays.toString(in);
        }
    }

    private static void collect(List<Question> questions, Methods.Entry entry, int[] in, int place) {
        if (place == in.length) {
            questions.add(new Question(entry, in.clone()));
            return;
        }
        for (int value : samples(entry.inputs()[place])) {
            in[place] = value;
            collect(questions, entry, in, place + 1);
        }
    }

    private static List<Question> questions(Methods.Entry entry) {
        List<Question> questions = new ArrayList<>();
        collect(questions, entry, new int[entry.inputs().length], 0);
        return questions;
    }

    private static boolean differs(Methods.Entry entry, boolean isTrained, int rate, int temperature) {
        boolean differs = false;
        for (Question question : questions(entry)) {
            Object before = question.of(at(isTrained, 0, 0));
            differs |= !question.of(at(isTrained, rate, temperature)).equals(before);
        }
        return differs;
    }

    private static void whatCounts() {
        for (Methods.Entry entry : Methods.QUESTIONS) {
            Sentence.of(entry.name() + ": the present rate and temperature count, or they do not");
            Sentence.same("another rate", differs(entry, false, 1, 0), OF_THE_RATE.contains(entry.name()));
            boolean isTrained = entry.need() == Methods.Need.TRAINED;
            boolean changes = differs(entry, isTrained, 0, 700) || differs(entry, isTrained, 0, 1250);
            Sentence.same("another temperature", changes, OF_THE_TEMPERATURE.contains(entry.name()));
        }
    }

    /** An object that has answered many other questions answers as a new one does that is asked this one alone. */
    private static void asked(List<Question> questions, int from, boolean isTrained, int rate, int temperature) {
        LinkTraining x = at(isTrained, 0, 0);
        for (int i = from; i < from + 200; i++) {
            questions.get(i % questions.size()).of(x);
        }
        if (rate != 0) {
            x.setRate(rate);
        }
        if (temperature != 0) {
            x.setTemperature(temperature);
        }
        for (int i = from + 200; i < from + 400; i++) {
            Question question = questions.get(i % questions.size());
            Sentence.same(question.shown() + " at " + rate + " and " + temperature + " after other questions",
                    question.of(x), question.of(at(isTrained, rate, temperature)));
        }
    }

    private static void whatWasAskedBefore() {
        Sentence.of("no question changes what another one answers");
        List<Question> all = new ArrayList<>();
        for (Methods.Entry entry : Methods.QUESTIONS) {
            List<Question> questions = questions(entry);
            for (int i = 0; i < Math.max(30, questions.size()); i++) {
                all.add(questions.get(i % questions.size()));
            }
        }
        Collections.shuffle(all, new Random(7));
        for (int from = 0; from < all.size(); from += 100) {
            asked(all, from, true, 0, 300);
            asked(all, from, false, 1, 0);
            asked(all, from, true, 1, -250);
        }
    }

    public static void main(String[] args) {
        whatCounts();
        whatWasAskedBefore();
        Sentence.end();
    }
}
