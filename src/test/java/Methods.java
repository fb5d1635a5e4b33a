import java.util.ArrayList;
import java.util.Arrays;
import java.util.List;

/** The methods of the face but for append() and undo(), with the kinds of their inputs and what a call needs besides. */
final class Methods {
    /** What a call needs besides its inputs. */
    enum Need { NOTHING, RATE, WORKING, TRAINED, HOLDING }

    interface Method {
        Object on(LinkTraining x, int[] in);
    }

    record Entry(String name, Need need, String[] inputs, Method method) { }

    static final List<Entry> CHANGES = new ArrayList<>();
    static final List<Entry> QUESTIONS = new ArrayList<>();

    private static List<Entry> filled = CHANGES;

    private Methods() { }

    static {
        changes();
        filled = QUESTIONS;
        plainQuestions();
        questionsOfARate();
        questionsOfTraining();
    }

    static List<Entry> all() {
        List<Entry> all = new ArrayList<>(CHANGES);
        all.addAll(QUESTIONS);
        return all;
    }

    private static void add(String spec, Need need, Method method) {
        String[] words = spec.split(" ");
        filled.add(new Entry(words[0], need, Arrays.copyOfRange(words, 1, words.length), method));
    }

    private static void changes() {
        add("truncate length", Need.NOTHING, (x, in) -> Look.cut(x, in[0]));
        add("find kind", Need.NOTHING, (x, in) -> x.find(in[0]));
        add("setRate rate", Need.NOTHING, (x, in) -> x.setRate(in[0]));
        add("setTemperature temperature", Need.NOTHING, (x, in) -> x.setTemperature(in[0]));
        add("train", Need.RATE, (x, in) -> x.train());
        add("trainWithFallback", Need.RATE, (x, in) -> x.trainWithFallback());
        add("retrain lane", Need.TRAINED, (x, in) -> x.retrain(in[0]));
        add("set lane tap vref", Need.TRAINED, (x, in) -> x.set(in[0], in[1], in[2]));
        add("writeSettings", Need.TRAINED, (x, in) -> x.writeSettings());
        add("load", Need.NOTHING, (x, in) -> x.load());
    }

    private static void plainQuestions() {
        add("errorCode", Need.NOTHING, (x, in) -> x.errorCode());
        add("errorPosition", Need.NOTHING, (x, in) -> x.errorPosition());
        add("rateCount", Need.NOTHING, (x, in) -> x.rateCount());
        add("laneCount", Need.NOTHING, (x, in) -> x.laneCount());
        add("patternCount", Need.NOTHING, (x, in) -> x.patternCount());
        add("rate", Need.NOTHING, (x, in) -> x.rate());
        add("temperature", Need.NOTHING, (x, in) -> x.temperature());
        add("worstPattern", Need.NOTHING, (x, in) -> x.worstPattern());
        add("fastestRate", Need.NOTHING, (x, in) -> x.fastestRate());
        add("isTrained", Need.NOTHING, (x, in) -> x.isTrained());
        add("logSize", Need.NOTHING, (x, in) -> x.logSize());
        add("longestRun pattern", Need.NOTHING, (x, in) -> x.longestRun(in[0]));
        add("changes pattern", Need.NOTHING, (x, in) -> x.changes(in[0]));
        add("penalty pattern", Need.NOTHING, (x, in) -> x.penalty(in[0]));
        add("offset lane tap", Need.NOTHING, (x, in) -> x.offset(in[0], in[1]));
        add("scoreAt rate", Need.NOTHING, (x, in) -> x.scoreAt(in[0]));
        add("fallbackFrom rate", Need.NOTHING, (x, in) -> x.fallbackFrom(in[0]));
        add("logEntry entry what", Need.NOTHING, (x, in) -> x.logEntry(in[0], in[1]));
        add("outputByte byte", Need.NOTHING, (x, in) -> x.outputByte(in[0]));
    }

    private static void questionsOfARate() {
        add("bitAt lane tap", Need.RATE, (x, in) -> x.bitAt(in[0], in[1]));
        add("phase lane tap", Need.RATE, (x, in) -> x.phase(in[0], in[1]));
        add("half lane vref pattern", Need.RATE, (x, in) -> x.half(in[0], in[1], in[2]));
        add("test lane tap vref pattern", Need.RATE, (x, in) -> x.test(in[0], in[1], in[2], in[3]));
        add("works lane tap vref", Need.RATE, (x, in) -> x.works(in[0], in[1], in[2]));
        add("firstFailure lane tap vref", Need.RATE, (x, in) -> x.firstFailure(in[0], in[1], in[2]));
        add("eyeCount lane vref", Need.RATE, (x, in) -> x.eyeCount(in[0], in[1]));
        add("eye lane vref eye what3", Need.RATE, (x, in) -> x.eye(in[0], in[1], in[2], in[3]));
        add("eyeArea lane bit", Need.RATE, (x, in) -> x.eyeArea(in[0], in[1]));
        add("eyeFill lane bit", Need.RATE, (x, in) -> x.eyeFill(in[0], in[1]));
        add("eyeHeight lane tap", Need.RATE, (x, in) -> x.eyeHeight(in[0], in[1]));
        add("firstEdge lane tap vref", Need.WORKING, (x, in) -> x.firstEdge(in[0], in[1], in[2]));
        add("lastEdge lane tap vref", Need.WORKING, (x, in) -> x.lastEdge(in[0], in[1], in[2]));
        add("edgeTests lane tap vref", Need.WORKING, (x, in) -> x.edgeTests(in[0], in[1], in[2]));
        add("timeMargin lane tap vref", Need.RATE, (x, in) -> x.timeMargin(in[0], in[1], in[2]));
        add("voltageMargin lane tap vref", Need.RATE, (x, in) -> x.voltageMargin(in[0], in[1], in[2]));
        add("score lane tap vref", Need.RATE, (x, in) -> x.score(in[0], in[1], in[2]));
        add("bestTap lane bit", Need.RATE, (x, in) -> x.bestTap(in[0], in[1]));
        add("bestVref lane bit", Need.RATE, (x, in) -> x.bestVref(in[0], in[1]));
        add("scoreOf bit", Need.RATE, (x, in) -> x.scoreOf(in[0]));
        add("trainableBits", Need.RATE, (x, in) -> x.trainableBits());
        add("scoreWithout pattern", Need.RATE, (x, in) -> x.scoreWithout(in[0]));
        add("greatestMargin", Need.RATE, (x, in) -> x.greatestMargin());
        add("sharedVref bit", Need.RATE, (x, in) -> x.sharedVref(in[0]));
    }

    private static void questionsOfTraining() {
        add("trainedBit", Need.TRAINED, (x, in) -> x.trainedBit());
        add("setting lane what", Need.TRAINED, (x, in) -> x.setting(in[0], in[1]));
        add("failing", Need.TRAINED, (x, in) -> x.failing());
        add("weakestLane", Need.TRAINED, (x, in) -> x.weakestLane());
        add("receive lane pattern", Need.TRAINED, (x, in) -> x.receive(in[0], in[1]));
        add("temperatureLimit flag", Need.HOLDING, (x, in) -> x.temperatureLimit(in[0] == 1));
    }
}
