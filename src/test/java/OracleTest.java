import java.lang.reflect.InvocationTargetException;
import java.lang.reflect.Method;
import java.util.ArrayList;
import java.util.HashMap;
import java.util.List;
import java.util.Map;
import java.util.Random;

/** The same calls, drawn from fixed seeds, on the program and on the Oracle: every answer must be the same. */
public final class OracleTest {
    private static final String[] CALLS = {
        "errorCode", "errorPosition", "rateCount", "laneCount", "patternCount", "rate", "temperature",
        "longestRun pattern", "changes pattern", "penalty pattern", "worstPattern", "offset lane tap",
        "bitAt lane tap", "phase lane tap", "half lane vref pattern", "test lane tap vref pattern",
        "works lane tap vref", "firstFailure lane tap vref", "eyeCount lane vref", "eye lane vref index what",
        "eyeArea lane bit", "eyeFill lane bit", "eyeHeight lane tap", "firstEdge lane tap vref",
        "lastEdge lane tap vref", "edgeTests lane tap vref", "timeMargin lane tap vref",
        "voltageMargin lane tap vref", "score lane tap vref", "bestTap lane bit", "bestVref lane bit", "scoreOf bit",
        "trainableBits", "scoreAt rate", "fastestRate", "fallbackFrom rate", "scoreWithout pattern",
        "greatestMargin", "sharedVref bit", "isTrained", "trainedBit", "setting lane what", "failing",
        "weakestLane", "receive lane pattern", "temperatureLimit flag", "logSize", "logEntry index what",
        "writeSettings", "outputByte byte",
    };
    private static final String[] DEEDS = {
        "setRate rate", "setTemperature temperature", "train", "trainWithFallback", "retrain lane",
        "set lane tap vref", "undo", "train", "set lane tap vref", "trainWithFallback", "retrain lane",
        "set lane tap vref", "setTemperature temperature", "train",
    };
    private static final String[] NAMES = {"a", "b", "c", "d", "e", "fast", "slow", "abcdef", "tap", "zz"};
    private static final String[] STRAY = {"rate", "lane", ";", "abcdefg", "to", "minus", "a", "0", "1", "51",
        "999999999999", "01", "010101010101010101", "\r", ":", "\u00ff", "\0", "drift", "link", "stress", "margin"};

    private final Random dice;
    private final LinkTraining program = new LinkTraining();
    private final Oracle oracle = new Oracle();
    private final List<String> history = new ArrayList<>();
    private int calls = 0;
    // Of the text that is being written: its reference voltages, and whether its link is likely to be trainable.
    private int vrefs = 1;
    private boolean friendly = true;
    private boolean agrees = true;

    private OracleTest(long seed) {
        dice = new Random(seed);
    }

    private static final Map<String, Method[]> METHODS = new HashMap<>();

    static {
        for (Method m : LinkTraining.class.getDeclaredMethods()) {
            for (Method o : Oracle.class.getDeclaredMethods()) {
                if (o.getName().equals(m.getName()) && java.lang.reflect.Modifier.isPublic(o.getModifiers())) {
                    METHODS.put(m.getName(), new Method[] {m, o});
                }
            }
        }
    }

    private static Object answer(Method method, Object target, Object[] arguments) throws IllegalAccessException {
        try {
            Object got = method.invoke(target, arguments);
            return got == null ? "nothing" : got;
        } catch (InvocationTargetException e) {
            return "throws " + Check.thrown(e.getCause(), target.getClass());
        }
    }

    private Object call(String name, Object... arguments) throws IllegalAccessException {
        calls++;
        Method[] both = METHODS.get(name);
        Object got = answer(both[0], program, arguments);
        Object want = answer(both[1], oracle, arguments);
        history.add(name + java.util.Arrays.toString(arguments) + " = " + got);
        if (!got.equals(want)) {
            agrees = false;
            System.out.println(String.join("\n", history) + "\n  but the oracle: " + want);
        }
        return want;
    }

    private int upTo(int n) {
        return dice.nextInt(n + 1);
    }

    private int among(int count) {
        return dice.nextInt(16) == 0 ? dice.nextInt(5) == 0 ? -1 : count + dice.nextInt(2) : upTo(Math.max(0, count - 1));
    }

    private int tap() throws IllegalAccessException {
        if (dice.nextInt(4) == 0 && oracle.isTrained() && oracle.laneCount() > 0) {
            return oracle.setting(upTo(oracle.laneCount() - 1), 0) + dice.nextInt(3) - 1;
        }
        return among(oracle.taps());
    }

    private int bit() {
        if (dice.nextInt(12) == 0) {
            return new int[] {-101, -100, 100, 101}[dice.nextInt(4)];
        }
        if (oracle.rate() < 0) {
            return dice.nextInt(5) - 2;
        }
        return oracle.bitAt(upTo(oracle.laneCount() - 1), upTo(oracle.taps() - 1)) + (dice.nextInt(5) == 0 ? 1 : 0);
    }

    private Object argument(String kind) throws IllegalAccessException {
        return switch (kind) {
            case "lane" -> among(oracle.laneCount());
            case "rate" -> among(oracle.rateCount());
            case "pattern" -> among(oracle.patternCount());
            case "tap" -> tap();
            case "vref" -> among(oracle.vrefs());
            case "bit" -> bit();
            case "index" -> among(3);
            case "what" -> among(2);
            case "byte" -> among(10);
            case "flag" -> dice.nextBoolean();
            case "temperature" -> dice.nextInt(8) == 0 ? new int[] {-401, -400, 1250, 1251, 0}[dice.nextInt(5)]
                    : dice.nextInt(1651) - 400;
            default -> throw new AssertionError(kind);
        };
    }

    private void callBy(String spec) throws IllegalAccessException {
        String[] parts = spec.split(" ");
        Object[] arguments = new Object[parts.length - 1];
        for (int i = 1; i < parts.length; i++) {
            arguments[i - 1] = argument(parts[i]);
        }
        call(parts[0], arguments);
    }

    private String name() {
        return NAMES[dice.nextInt(NAMES.length)];
    }

    private String number(int low, int high) {
        if (dice.nextInt(friendly ? 900 : 80) == 0) {
            return "" + (dice.nextBoolean() ? high + 1 : Math.max(0, low - 1));
        }
        int value = dice.nextInt(9) == 0 ? dice.nextBoolean() ? low : high : low + dice.nextInt(high - low + 1);
        return (dice.nextInt(20) == 0 ? "00" : "") + value;
    }

    private String often(int low, int usual, int high) {
        return number(low, friendly || dice.nextInt(3) > 0 ? usual : high);
    }

    private String bits() {
        StringBuilder bits = new StringBuilder();
        int count = dice.nextInt(12) == 0 ? 15 + dice.nextInt(3) : 1 + dice.nextInt(8);
        for (int i = 0; i < count; i++) {
            bits.append(dice.nextInt(2));
        }
        return bits.toString();
    }

    private String statement(int kind, String fresh) {
        return switch (kind) {
            case 0 -> "rate " + fresh + " period " + often(100, 300, 2000) + " jitter " + often(0, 10, 200);
            case 1 -> "lane " + fresh + " skew " + often(0, 200, 4000) + " width " + often(700, 1000, 1000) + " vref "
                    + number(0, vrefs - 1) + " slope " + often(0, 10, 200)
                    + (dice.nextBoolean() ? "" : " drift " + (dice.nextBoolean() ? "minus " : "") + number(0, 50));
            case 2 -> "pattern " + fresh + " " + bits();
            case 3 -> "stress run " + often(0, 3, 50) + " change " + often(0, 2, 50);
            case 4 -> "margin time " + often(0, 15, 500) + " volts " + often(0, 1, 8);
            default -> "fallback " + name() + " to " + name();
        };
    }

    private String text() {
        friendly = dice.nextInt(4) > 0;
        int taps = dice.nextInt(30) == 0 ? 4 + dice.nextInt(125) : friendly ? 12 + dice.nextInt(25) : 4 + dice.nextInt(29);
        vrefs = dice.nextInt(10) == 0 ? 1 + dice.nextInt(16) : 1 + dice.nextInt(5);
        String step = friendly ? number(5, 25) : number(1, 50);
        StringBuilder text = new StringBuilder("link step " + step + " taps " + taps + " vrefs " + vrefs + ";");
        int rates = dice.nextInt(15) == 0 ? 4 + dice.nextInt(2) : 1 + dice.nextInt(3);
        int lanes = dice.nextInt(15) == 0 ? 8 + dice.nextInt(2) : 1 + dice.nextInt(3);
        int patterns = dice.nextInt(15) == 0 ? 6 + dice.nextInt(2) : 1 + dice.nextInt(4);
        int first = dice.nextInt(NAMES.length);
        int[][] plan = {{0, rates}, {1, lanes}, {2, patterns}, {3, dice.nextInt(15) == 0 ? 2 : dice.nextInt(2)},
            {4, dice.nextInt(15) == 0 ? 2 : dice.nextInt(2)}};
        for (int[] part : plan) {
            for (int i = 0; i < part[1]; i++) {
                String fresh = dice.nextInt(friendly ? 400 : 40) == 0 ? name() : NAMES[(first + i) % NAMES.length];
                text.append(dice.nextInt(12) == 0 ? " \n" : "").append(statement(part[0], fresh)).append(';');
            }
        }
        for (int i = 0; i < rates && i < 4; i++) {
            if (dice.nextInt(3) > 0) {
                String from = NAMES[(first + i) % NAMES.length];
                String to = NAMES[(first + dice.nextInt(rates)) % NAMES.length];
                text.append("fallback ").append(from).append(" to ").append(to).append(";");
            }
        }
        return text.toString();
    }

    private String broken(String text) {
        StringBuilder changed = new StringBuilder();
        String[] tokens = text.split("(?<=[ ;\n])|(?=;)");
        int at = dice.nextInt(tokens.length);
        for (int i = 0; i < tokens.length; i++) {
            int what = i == at ? dice.nextInt(5) : 9;
            if (what == 0) {
                continue;
            }
            if (what == 4) {
                break;
            }
            changed.append(what == 1 || what == 2 ? STRAY[dice.nextInt(STRAY.length)] + " " : "");
            changed.append(what == 2 ? "" : tokens[i]);
            changed.append(what == 3 ? tokens[i] : "");
        }
        return changed.toString();
    }

    private void feed(String text) throws IllegalAccessException {
        String padded = text + " ".repeat((20 - text.length() % 20) % 20);
        for (int at = 0; at < padded.length() && at < 1400; at += 20) {
            call("append", Feed.word(padded, at), Feed.word(padded, at + 4), Feed.word(padded, at + 8),
                    Feed.word(padded, at + 12), Feed.word(padded, at + 16));
        }
        call("truncate", text.length());
    }

    private boolean run() throws IllegalAccessException {
        int length = 60 + dice.nextInt(200);
        int tries = dice.nextInt(12) == 0 ? 0 : 3;
        for (int i = 0; i < tries && oracle.rate() < 0; i++) {
            feed(text());
            call("load");
        }
        for (int i = 0; i < length && agrees && calls < 400; i++) {
            int kind = dice.nextInt(100);
            if (kind < 2) {
                feed(dice.nextBoolean() ? text() : broken(text()));
                call("load");
            } else if (kind < 5) {
                feed(dice.nextInt(4) == 0 ? name() + " " : name());
                call("find", among(3));
            } else if (kind < 6) {
                call("append", dice.nextInt(), dice.nextInt(), dice.nextInt(), dice.nextInt(), dice.nextInt());
                call("truncate", dice.nextInt(24) - 2);
            } else {
                callBy(kind < 36 ? DEEDS[dice.nextInt(DEEDS.length)] : CALLS[dice.nextInt(CALLS.length)]);
            }
        }
        return agrees;
    }

    private boolean brokenTexts() throws IllegalAccessException {
        for (int i = 0; i < 8 && agrees; i++) {
            feed(broken(text()));
            call("load");
            call("errorCode");
            call("errorPosition");
        }
        return agrees;
    }

    public static void main(String[] args) throws IllegalAccessException {
        int runs = args.length > 0 ? Integer.parseInt(args[0]) : 1500;
        long from = args.length > 1 ? Long.parseLong(args[1]) : 0;
        int wrong = 0;
        long calls = 0;
        for (long seed = from; seed < from + runs && wrong < 3; seed++) {
            OracleTest played = new OracleTest(seed);
            boolean agrees = seed % 4 == 3 ? played.brokenTexts() : played.run();
            calls += played.calls;
            if (!agrees) {
                wrong++;
                System.out.println("seed " + seed + " disagrees");
            }
        }
        System.out.println("compared " + calls + " calls");
        System.exit(wrong > 0 ? 1 : 0);
    }
}
