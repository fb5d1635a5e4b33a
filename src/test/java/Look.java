/** What can be seen of an object whose input buffer holds a text that loads. */
final class Look {
    private Look() { }

    static Object cut(LinkTraining x, int length) {
        x.truncate(length);
        return length;
    }

    /** Looks without changing anything. */
    static String at(LinkTraining x) {
        StringBuilder seen = new StringBuilder();
        seen.append(x.errorCode()).append(' ').append(x.errorPosition());
        seen.append(" things ").append(x.rateCount()).append(x.laneCount()).append(x.patternCount());
        seen.append(" at ").append(x.rate()).append(' ').append(x.temperature());
        seen.append(" trained ").append(Check.answer(x, LinkTraining::trainedBit));
        for (int i = 0; i < x.laneCount(); i++) {
            int lane = i;
            seen.append(" lane ").append(Check.answer(x, y -> y.setting(lane, 0))).append('/')
                    .append(Check.answer(x, y -> y.setting(lane, 1))).append(" best ")
                    .append(x.bestTap(lane, 0)).append(" at ").append(x.offset(lane, 1));
        }
        seen.append(" log ").append(x.logSize());
        for (int i : new int[] {0, x.logSize() - 1}) {
            seen.append(' ').append(Check.answer(x, y -> y.logEntry(i, 0))).append('/')
                    .append(Check.answer(x, y -> y.logEntry(i, 1)));
        }
        for (int i : new int[] {0, 2, 11, 12}) {
            seen.append(" byte ").append(Check.answer(x, y -> y.outputByte(i)));
        }
        return seen.toString();
    }

    /** Looks at everything, also at the input and at what undo() brings back; the object is used up by it. */
    static String through(LinkTraining x, int inputLength) {
        StringBuilder seen = new StringBuilder(at(x));
        seen.append("\n input ").append(Check.answer(x, y -> cut(y, inputLength + 1)))
                .append(Check.answer(x, y -> cut(y, inputLength)));
        seen.append("\n loads ").append(x.load()).append(' ').append(at(x));
        for (int i = 0; i < 10; i++) {
            Object left = Check.answer(x, LinkTraining::undo);
            seen.append("\n undo ").append(left).append(' ').append(left instanceof Integer ? at(x) : "");
        }
        return seen.toString();
    }
}
