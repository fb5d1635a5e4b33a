/** Puts texts into the input buffer, which takes only twenty bytes at a time. */
final class Feed {
    private Feed() { }

    static int word(String padded, int at) {
        return padded.charAt(at) << 24 | padded.charAt(at + 1) << 16 | padded.charAt(at + 2) << 8
                | padded.charAt(at + 3);
    }

    /** Appends a text of at most 1400 bytes and cuts off what filled it up. */
    static void text(LinkTraining x, String text) {
        String padded = text + " ".repeat((20 - text.length() % 20) % 20);
        int before = -1;
        for (int at = 0; at < padded.length(); at += 20) {
            int length = x.append(word(padded, at), word(padded, at + 4), word(padded, at + 8),
                    word(padded, at + 12), word(padded, at + 16));
            before = before < 0 ? length - 20 : before;
        }
        if (before >= 0) {
            x.truncate(before + text.length());
        }
    }

    static int load(LinkTraining x, String text) {
        text(x, text);
        return x.load();
    }

    static LinkTraining loaded(String text) {
        LinkTraining x = new LinkTraining();
        int lanes = load(x, text);
        if (lanes < 0) {
            throw new AssertionError("error " + x.errorCode() + " at " + x.errorPosition() + " of " + text);
        }
        return x;
    }
}
