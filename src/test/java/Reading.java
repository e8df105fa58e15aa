/** Reads from a bakery all that calls can tell of it, as one text; reading uses the bakery up. */
final class Reading extends Scenes {
    private Reading() {
    }

    static String of(NeedleBakery x) {
        StringBuilder text = new StringBuilder();
        text.append(label(x)).append('\n').append(failures(x)).append('\n');
        text.append(state(x)).append('\n').append(buffer(x));
        return text.toString();
    }

    static String label(NeedleBakery x) {
        StringBuilder text = new StringBuilder();
        Object sign = Check.answerOf(() -> x.labelAt(0));
        for (int i = 1; sign instanceof Character; i++) {
            int index = i;
            text.append(sign);
            sign = Check.answerOf(() -> x.labelAt(index));
        }
        return text.toString();
    }

    private static String failures(NeedleBakery x) {
        return Check.answerOf(() -> x.errorPosition()) + " " + Check.answerOf(() -> x.failedCommand());
    }

    /** The state, the states that undo brings back, the snapshot, and the id that is given next. */
    static String state(NeedleBakery x) {
        StringBuilder text = new StringBuilder(picture(x));
        Object left = Check.answerOf(() -> x.undo());
        while (left instanceof Integer) {
            text.append('\n').append(left).append(": ").append(digest(x));
            left = Check.answerOf(() -> x.undo());
        }
        Object clock = Check.answerOf(() -> x.restore());
        text.append('\n').append(clock).append(": ").append(picture(x));
        text.append('\n').append(Check.answerOf(() -> x.addBatch(1, 1, 1)));
        return text.toString();
    }

    /** Shorter than a picture, so that an object's 512 calls are enough for one after each undo. */
    private static String digest(NeedleBakery x) {
        StringBuilder text = new StringBuilder();
        for (int needle = 0; needle < x.needleCount(); needle++) {
            text.append(x.errorOf(needle)).append(x.isDiscarded(needle) ? "x " : " ");
        }
        text.append(x.tolerance()).append(' ').append(x.clock()).append(' ').append(x.batchCount());
        text.append(' ').append(x.bakedCount()).append(' ').append(x.latenessTotal());
        text.append(' ').append(x.latenessByIds());
        return text.toString();
    }

    /** What the buffer holds is told by its length and by what becomes of it. */
    private static String buffer(NeedleBakery x) {
        StringBuilder text = new StringBuilder();
        text.append(Check.answerOf(() -> x.type('7'))).append(' ').append(Check.answerOf(() -> x.execute()));
        text.append(' ').append(failures(x)).append(' ').append(x.batchCount());
        return text.toString();
    }
}
