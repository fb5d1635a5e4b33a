/** Checks under the sentences of the document that name boundary cases; a sentence without a check is a failure. */
final class Sentence {
    private static String words = "";
    private static int sentences = 0;
    private static int checksHere = 1;
    private static int checks = 0;
    private static int wrong = 0;

    private Sentence() { }

    /** The checks that follow stand under this sentence. */
    static void of(String sentence) {
        close();
        words = sentence;
        sentences++;
        checksHere = 0;
    }

    private static void close() {
        if (checksHere == 0) {
            wrong++;
            System.out.println("\"" + words + "\" has no check");
        }
    }

    static void same(String what, Object got, Object due) {
        checks++;
        checksHere++;
        if (!got.equals(due)) {
            wrong++;
            System.out.println("\"" + words + "\": " + what + " answered " + got + ", due is " + due);
        }
    }

    static void refuses(String what, LinkTraining x, Class<? extends RuntimeException> due, Check.Call call) {
        same(what, Check.answer(x, call), due.getName());
    }

    /** The call is answered, whatever the answer is. */
    static void accepts(String what, LinkTraining x, Check.Call call) {
        Object answer = Check.answer(x, call);
        same(what, answer instanceof String ? answer : "answered", "answered");
    }

    /** The text is refused with this code at the place of the bar. */
    static LinkTraining refusesText(String marked, int code) {
        LinkTraining x = new LinkTraining();
        int at = marked.indexOf('|');
        Object load = Feed.load(x, marked.substring(0, at) + marked.substring(at + 1));
        same("load of " + shown(marked), load + " " + x.errorCode() + " " + x.errorPosition(),
                LinkTraining.PARSE_ERROR + " " + code + " " + at);
        return x;
    }

    static LinkTraining takesText(String text) {
        LinkTraining x = new LinkTraining();
        Object load = Feed.load(x, text);
        same("load of " + shown(text), load + " " + x.errorCode() + " " + x.errorPosition(), x.laneCount() + " 0 -1");
        return x;
    }

    private static String shown(String text) {
        StringBuilder shown = new StringBuilder();
        for (char c : text.toCharArray()) {
            shown.append(c >= 32 && c < 127 ? "" + c : "<" + (int) c + ">");
        }
        return shown.length() < 400 ? shown.toString() : shown.substring(0, 400) + "..";
    }

    static void end() {
        close();
        System.out.println(sentences + " sentences, " + checks + " checks, " + wrong + " wrong");
        System.exit(wrong > 0 ? 1 : 0);
    }
}
