import java.util.NoSuchElementException;

/** What the tests share: short names of the exceptions, and bakeries to begin with. */
abstract class Scenes {
    static final Class<IndexOutOfBoundsException> INDEX = IndexOutOfBoundsException.class;
    static final Class<IllegalArgumentException> ARGUMENT = IllegalArgumentException.class;
    static final Class<IllegalStateException> STATE = IllegalStateException.class;
    static final Class<UnsupportedOperationException> UNSUPPORTED = UnsupportedOperationException.class;
    static final Class<NoSuchElementException> NO_ELEMENT = NoSuchElementException.class;
    static final Class<ArithmeticException> ARITHMETIC = ArithmeticException.class;

    /** Makes a bakery with needles of these strengths. */
    static NeedleBakery withNeedles(int... strengths) {
        NeedleBakery x = new NeedleBakery();
        for (int strength : strengths) {
            x.addNeedle(strength);
        }
        return x;
    }

    static NeedleBakery withEightNeedles() {
        return withNeedles(10, 20, 30, 40, 50, 60, 70, 80);
    }

    /** Makes a bakery with batches of 10 minutes, due at the minute 20, of the weight 3. */
    static NeedleBakery withBatches(int number) {
        NeedleBakery x = new NeedleBakery();
        for (int batch = 0; batch < number; batch++) {
            x.addBatch(10, 20, 3);
        }
        return x;
    }

    static NeedleBakery withTable(int... degrees) {
        NeedleBakery x = withNeedles(40);
        table(x, 0, degrees);
        return x;
    }

    static void table(NeedleBakery x, int needle, int... degrees) {
        for (int heading = 0; heading < degrees.length; heading++) {
            x.setDeviation(needle, heading, degrees[heading]);
        }
    }

    static String tableOf(NeedleBakery x, int needle) {
        StringBuilder text = new StringBuilder();
        for (int heading = 0; heading < 8; heading++) {
            text.append(' ').append(x.deviationAt(needle, 45 * heading));
        }
        return text.toString();
    }

    static void typeAll(NeedleBakery x, String text) {
        for (int i = 0; i < text.length(); i++) {
            x.type(text.charAt(i));
        }
    }

    static NeedleBakery typed(String text) {
        NeedleBakery x = new NeedleBakery();
        typeAll(x, text);
        return x;
    }

    static int run(NeedleBakery x, String text) {
        typeAll(x, text);
        return x.execute();
    }

    static String labelOf(NeedleBakery x, int needle) {
        int length = x.writeLabel(needle);
        StringBuilder text = new StringBuilder();
        for (int i = 0; i < length; i++) {
            text.append(x.labelAt(i));
        }
        return text.toString();
    }

    /** All that undo and restore bring back, as one text. */
    static String picture(NeedleBakery x) {
        StringBuilder text = new StringBuilder();
        for (int needle = 0; needle < x.needleCount(); needle++) {
            text.append(x.strengthOf(needle)).append(tableOf(x, needle)).append(x.isDiscarded(needle)).append('\n');
        }
        text.append(x.tolerance()).append(' ').append(x.clock()).append(' ').append(x.bakedCount());
        text.append(' ').append(x.latenessTotal()).append(' ').append(x.clock() == 0 ? 0 : x.bakingShare());
        for (int position = 0; position < x.batchCount(); position++) {
            int batch = x.batchAt(position);
            text.append(' ').append(batch).append(':').append(x.latenessNow(batch));
        }
        text.append(' ').append(x.leastLateness()).append(' ').append(x.latenessByIds());
        return text.toString();
    }

    /**
     * Makes a bakery that has something of everything, so that a call that changes what it must not is seen.
     * Needle 0 is good, 1 is discarded, 2 is a reject that cannot be corrected; the batches 1 and 2 wait, the next id
     * is 4; the snapshot is older than the state, 8 modifications can be undone, and the buffer holds "drop 1".
     */
    static NeedleBakery lived() {
        NeedleBakery x = withNeedles(40, 55, 70);
        table(x, 0, 1, -2, 3, -4, 5, -6, 7, -8);
        table(x, 2, -20, 20, 20, 20, 20, 20, 20, 20);
        x.discard(1);
        x.addBatch(10, 5, 2);
        x.addBatch(20, 900, 3);
        x.addBatch(30, 40, 9);
        x.addBatch(5, 6, 7);
        x.bake(0);
        x.dropBatch(3);
        x.save();
        run(x, "rest 3;limit 12");
        x.setDeviation(0, 0, 4);
        Check.answerOf(() -> run(x, "rest;"));
        Check.answerOf(() -> run(x, "rest 1;rest 0"));
        x.writeLabel(2);
        typeAll(x, "drop 1");
        return x;
    }
}
