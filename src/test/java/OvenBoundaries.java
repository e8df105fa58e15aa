/** The boundary sentences on the oven: promises 27 to 41, and what the Terms say of it. */
final class OvenBoundaries extends Scenes {
    private OvenBoundaries() {
    }

    static void test() {
        termsOfClock();
        termsOfBatches();
        termsOfLateness();
        addBatch();
        addBatchRefused();
        noSuchBatch();
        dropAndBake();
        rest();
        batchQueries();
        batchAtRefused();
        noBatchWaits();
        leastLateness();
        bestFirst();
        accounts();
        bakingShare();
    }

    private static void termsOfClock() {
        Sentence from = Sentence.ofTerms("The clock counts minutes from 0 on.");
        NeedleBakery x = new NeedleBakery();
        from.due("at first", 0, () -> x.clock());
        x.addBatch(1, 1, 1);
        x.addBatch(60, 1, 1);
        from.due("with batches that wait", 0, () -> x.clock());
        Sentence bakes = Sentence.ofTerms("When a batch is baked, the clock increases by its baking minutes, and the batch waits no longer.");
        x.bake(0);
        bakes.due("after the least baking minutes", 1, () -> x.clock());
        bakes.due("the batch that still waits", 1, () -> x.batchAt(0));
        x.bake(1);
        bakes.due("after the most baking minutes", 61, () -> x.clock());
        bakes.due("none waits", 0, () -> x.batchCount());
        bakes.throwsDue("the baked one again", NO_ELEMENT, () -> x.bake(1));
    }

    private static void termsOfBatches() {
        Sentence most = Sentence.ofTerms("At most 7 batches wait.");
        NeedleBakery x = withBatches(6);
        most.due("a seventh", 6, () -> x.addBatch(1, 1, 1));
        most.throwsDue("an eighth", STATE, () -> x.addBatch(1, 1, 1));
        x.bake(3);
        most.due("one in place of a baked one", 7, () -> x.addBatch(1, 1, 1));
        most.throwsDue("an eighth again", STATE, () -> x.addBatch(1, 1, 1));
        Sentence ids = Sentence.ofTerms("Batches have ids: the first one has the id 0, and every further one has the id of the batch before it plus 1.");
        NeedleBakery y = new NeedleBakery();
        ids.due("the first", 0, () -> y.addBatch(1, 1, 1));
        y.dropBatch(0);
        ids.due("after the only one was dropped", 1, () -> y.addBatch(1, 1, 1));
        y.bake(1);
        ids.due("after the only one was baked", 2, () -> y.addBatch(1, 1, 1));
        Check.answerOf(() -> y.addBatch(0, 1, 1));
        ids.due("after a refused one", 3, () -> y.addBatch(1, 1, 1));
        y.undo();
        ids.due("after an undone one", 3, () -> y.addBatch(1, 1, 1));
        for (int batch = 4; batch < 120; batch++) {
            int due = batch;
            y.dropBatch(due - 1);
            ids.due("the id " + due, due, () -> y.addBatch(1, 1, 1));
        }
        Sentence ranges = Sentence.ofTerms("A batch has baking minutes from 1 to 60, a due minute from 1 to 999, and a weight from 1 to 9.");
        ranges.due("the least of all", 0, () -> new NeedleBakery().addBatch(1, 1, 1));
        ranges.due("the most of all", 0, () -> new NeedleBakery().addBatch(60, 999, 9));
        ranges.range(1, 60, ARGUMENT, Scenes::lived, (z, number) -> z.addBatch(number, 1, 1));
        ranges.range(1, 999, ARGUMENT, Scenes::lived, (z, number) -> z.addBatch(1, number, 1));
        ranges.range(1, 9, ARGUMENT, Scenes::lived, (z, number) -> z.addBatch(1, 1, number));
    }

    private static void termsOfLateness() {
        Sentence s = Sentence.ofTerms(
                "Its lateness is its weight multiplied by the minutes by which the clock is past its due minute then, and 0 if it is not past it.");
        NeedleBakery x = new NeedleBakery();
        x.addBatch(10, 11, 9);
        x.addBatch(10, 20, 9);
        x.addBatch(10, 29, 9);
        s.due("a minute before it", 0, () -> x.bake(0));
        s.due("at its due minute", 0, () -> x.bake(1));
        s.due("a minute past it", 9, () -> x.bake(2));
        NeedleBakery y = new NeedleBakery();
        y.addBatch(60, 1, 1);
        s.due("the least weight", 59, () -> y.bake(0));
        Sentence order = Sentence.ofTerms("The lateness of an order of all batches that wait is the sum of their latenesses "
                + "if they were baked in this order from now on, one right after the other.");
        NeedleBakery z = new NeedleBakery();
        z.addBatch(10, 10, 1);
        z.addBatch(10, 20, 1);
        z.addBatch(10, 30, 1);
        order.due("all just in time", 0, () -> z.latenessByIds());
        z.rest(1);
        order.due("all a minute late", 3, () -> z.latenessByIds());
        order.due("of three, the middle one dropped", 1, () -> {
            z.dropBatch(1);
            return z.latenessByIds();
        });
    }

    private static void addBatch() {
        Sentence minutes = Sentence.of(27, "`minutes`: the baking minutes, 1 to 60");
        minutes.range(1, 60, ARGUMENT, NeedleBakery::new, (x, number) -> x.addBatch(number, 1, 1));
        Sentence due = Sentence.of(27, "`due`: the due minute, 1 to 999");
        due.range(1, 999, ARGUMENT, NeedleBakery::new, (x, number) -> x.addBatch(1, number, 1));
        Sentence weight = Sentence.of(27, "`weight`: the weight, 1 to 9");
        weight.range(1, 9, ARGUMENT, NeedleBakery::new, (x, number) -> x.addBatch(1, 1, number));
        NeedleBakery x = new NeedleBakery();
        x.addBatch(60, 1, 9);
        minutes.due("the most", 60 * 9 - 9, () -> x.latenessNow(0));
        x.addBatch(1, 1, 1);
        minutes.due("the least", 0, () -> x.latenessNow(1));
        x.rest(60);
        due.due("the least", 60, () -> x.latenessNow(1));
        weight.due("the most", 119 * 9, () -> x.latenessNow(0));
        NeedleBakery y = new NeedleBakery();
        y.addBatch(60, 999, 1);
        for (int hour = 0; hour < 15; hour++) {
            y.rest(60);
        }
        y.rest(999 - 60 - 15 * 60);
        due.due("the greatest, just in time", 0, () -> y.latenessNow(0));
        y.rest(1);
        due.due("the greatest, a minute past it", 1, () -> y.latenessNow(0));
    }

    private static void addBatchRefused() {
        Sentence range = Sentence.of(27, "Throws `IllegalArgumentException` if one of the numbers is out of range");
        int[][] wrong = {{0, 1, 1}, {61, 1, 1}, {1, 0, 1}, {1, 1000, 1}, {1, 1, 0}, {1, 1, 10}, {-1, -1, -1}};
        for (int[] numbers : wrong) {
            Sentence.Call call = x -> x.addBatch(numbers[0], numbers[1], numbers[2]);
            String name = "addBatch(" + numbers[0] + ", " + numbers[1] + ", " + numbers[2] + ")";
            range.refuses(name, ARGUMENT, Scenes::lived, call);
            range.refuses(name + " as an eighth", ARGUMENT, () -> withBatches(7), call);
        }
        Sentence full = Sentence.of(27, "Throws `IllegalStateException` if 7 batches wait");
        full.refuses("an eighth", STATE, () -> withBatches(7), x -> x.addBatch(1, 1, 1));
        full.refuses("an eighth, the most of all", STATE, () -> withBatches(7), x -> x.addBatch(60, 999, 9));
        full.due("a seventh", 6, () -> withBatches(6).addBatch(1, 1, 1));
    }

    private static void noSuchBatch() {
        noSuchBatch(28, (x, batch) -> x.dropBatch(batch));
        noSuchBatch(29, (x, batch) -> x.bake(batch));
        noSuchBatch(34, (x, batch) -> x.latenessNow(batch));
    }

    private static void noSuchBatch(int promise, Sentence.RangeCall call) {
        Sentence s = Sentence.of(promise, "Throws `NoSuchElementException` if no batch with this id waits");
        s.refuses("the id 0 of none", NO_ELEMENT, NeedleBakery::new, x -> call.on(x, 0));
        s.refuses("the id 7 of seven", NO_ELEMENT, () -> withBatches(7), x -> call.on(x, 7));
        s.refuses("a baked one", NO_ELEMENT, Scenes::lived, x -> call.on(x, 0));
        s.refuses("a dropped one", NO_ELEMENT, Scenes::lived, x -> call.on(x, 3));
        s.refuses("the id that is given next", NO_ELEMENT, Scenes::lived, x -> call.on(x, 4));
        for (int batch : new int[] {-1, Integer.MIN_VALUE, Integer.MAX_VALUE}) {
            s.refuses("the id " + batch, NO_ELEMENT, Scenes::lived, x -> call.on(x, batch));
        }
        NeedleBakery undone = withBatches(2);
        undone.undo();
        s.throwsDue("an undone one", NO_ELEMENT, () -> call.on(undone, 1));
        Object taken = Check.answerOf(() -> call.on(withBatches(7), 6));
        Check.same("the id 6 of seven is taken", false, taken.toString().startsWith("throws."));
    }

    private static void dropAndBake() {
        Sentence still = Sentence.of(28, "Returns the number of batches that still wait.");
        NeedleBakery x = withBatches(7);
        for (int left = 6; left >= 0; left--) {
            int due = left;
            still.due("with " + due + " left", due, () -> x.dropBatch(due));
        }
        Sentence drops = Sentence.of(28, "Drops a batch that waits, without baking it.");
        drops.due("the clock after all drops", 0, () -> x.clock());
        drops.due("bakedCount after all drops", 0, () -> x.bakedCount());
        keepTheirNumbers(drops, (z, batch) -> z.dropBatch(batch));
        keepTheirNumbers(Sentence.of(29, "Bakes a batch that waits."), (z, batch) -> z.bake(batch));
        Sentence last = Sentence.of(29, "Returns its lateness.");
        NeedleBakery y = withBatches(7);
        int[] due = {0, 0, 30, 60, 90, 120, 150};
        for (int batch = 6; batch >= 0; batch--) {
            int asked = batch;
            last.due("batch " + asked, due[6 - asked], () -> y.bake(asked));
        }
    }

    /** Whichever of seven is taken out, the others wait with the ids, minutes, dues and weights that they had. */
    private static void keepTheirNumbers(Sentence s, Sentence.RangeCall takeOut) {
        for (int out = 0; out < 7; out++) {
            NeedleBakery x = new NeedleBakery();
            for (int batch = 0; batch < 7; batch++) {
                x.addBatch(10 + batch, 1 + 3 * batch, 1 + batch);
            }
            takeOut.on(x, out);
            int start = x.clock();
            for (int position = 0; position < 6; position++) {
                int batch = position < out ? position : position + 1;
                int place = position;
                int late = (1 + batch) * (start + 10 + batch - 1 - 3 * batch);
                s.due("batchAt(" + place + ") without " + out, batch, () -> x.batchAt(place));
                s.due("latenessNow(" + batch + ") without " + out, Math.max(0, late), () -> x.latenessNow(batch));
            }
        }
    }

    private static void rest() {
        Sentence minutes = Sentence.of(30, "`minutes`: the number of minutes, 1 to 60");
        minutes.range(1, 60, ARGUMENT, NeedleBakery::new, (x, number) -> x.rest(number));
        NeedleBakery x = new NeedleBakery();
        minutes.due("the least", 1, () -> x.rest(1));
        minutes.due("the most", 61, () -> x.rest(60));
        Sentence range = Sentence.of(30, "Throws `IllegalArgumentException` if the number of minutes is out of range");
        range.refuses("0", ARGUMENT, Scenes::lived, y -> y.rest(0));
        range.refuses("61", ARGUMENT, Scenes::lived, y -> y.rest(61));
        range.refuses("-1", ARGUMENT, Scenes::lived, y -> y.rest(-1));
        Sentence clock = Sentence.of(31, "Returns the number of minutes.");
        clock.due("at first", 0, () -> new NeedleBakery().clock());
        clock.due("after rests", 61, () -> x.clock());
    }

    private static void batchQueries() {
        Sentence waits = Sentence.of(32, "Returns the number of batches that wait.");
        Sentence returned = Sentence.of(32, "Returns the number of batches.");
        waits.due("none", 0, () -> new NeedleBakery().batchCount());
        returned.due("seven", 7, () -> withBatches(7).batchCount());
        NeedleBakery x = withBatches(7);
        x.bake(0);
        x.dropBatch(6);
        waits.due("without a baked and a dropped one", 5, () -> x.batchCount());
        Sentence now = Sentence.of(34, "Returns the lateness of a batch if it was baked now.");
        NeedleBakery y = withBatches(1);
        y.rest(9);
        now.due("a minute before its due minute", 0, () -> y.latenessNow(0));
        y.rest(1);
        now.due("at its due minute", 0, () -> y.latenessNow(0));
        y.rest(1);
        now.due("a minute past it", 3, () -> y.latenessNow(0));
    }

    private static void batchAtRefused() {
        Sentence position = Sentence.of(33, "`position`: the position, from 0");
        NeedleBakery x = withBatches(7);
        position.due("the first of seven", 0, () -> x.batchAt(0));
        position.due("the last of seven", 6, () -> x.batchAt(6));
        x.bake(0);
        x.dropBatch(3);
        x.bake(6);
        int[] due = {1, 2, 4, 5};
        for (int place = 0; place < 4; place++) {
            int asked = place;
            position.due("position " + asked + " of four", due[asked], () -> x.batchAt(asked));
        }
        Sentence s = Sentence.of(33, "Throws `IndexOutOfBoundsException` if there is no such position");
        s.refuses("position 0 of none", INDEX, NeedleBakery::new, y -> y.batchAt(0));
        s.refuses("position 7 of seven", INDEX, () -> withBatches(7), y -> y.batchAt(7));
        for (int place : new int[] {-1, 2, Integer.MIN_VALUE, Integer.MAX_VALUE}) {
            s.refuses("position " + place + " of two", INDEX, Scenes::lived, y -> y.batchAt(place));
        }
    }

    private static void noBatchWaits() {
        String words = "Returns the lateness, 0 if no batch waits.";
        noBatchWaits(Sentence.of(35, words), x -> x.leastLateness());
        noBatchWaits(Sentence.of(36, words), x -> x.leastLatenessByOrders());
        noBatchWaits(Sentence.of(38, words), x -> x.latenessByIds());
    }

    private static void noBatchWaits(Sentence s, Sentence.Call call) {
        s.due("of a new bakery", 0, () -> call.on(new NeedleBakery()));
        NeedleBakery x = withBatches(2);
        x.rest(20);
        s.due("of two", 30 + 60, () -> call.on(x));
        x.dropBatch(0);
        s.due("of one", 30, () -> call.on(x));
        x.bake(1);
        s.due("after the last was baked", 0, () -> call.on(x));
        s.due("of seven", 30 + 60 + 90 + 120 + 150, () -> call.on(withBatches(7)));
    }

    private static void leastLateness() {
        String words = "Returns the least lateness of an order of all batches that wait";
        Sentence sets = Sentence.of(35, words);
        Sentence orders = Sentence.of(36, "giving up those that are already as late as the best one.");
        int[][][] batchesAndDue = {{{60, 1, 9}, {59 * 9}}, {{60, 60, 9}, {0}},
            {{10, 20, 1}, {10, 10, 1}, {0}}, {{10, 10, 1}, {10, 10, 9}, {10}}, {{60, 60, 1}, {1, 1, 9}, {1}},
            {{60, 1, 9}, {60, 1, 9}, {60, 1, 9}, {60, 1, 9}, {60, 1, 9}, {60, 1, 9}, {60, 1, 9}, {9 * (60 * 28 - 7)}},
            {{10, 70, 9}, {10, 60, 9}, {10, 50, 9}, {10, 40, 9}, {10, 30, 9}, {10, 20, 9}, {10, 10, 9}, {0}}};
        for (int[][] rows : batchesAndDue) {
            NeedleBakery x = new NeedleBakery();
            int number = rows.length - 1;
            for (int batch = 0; batch < number; batch++) {
                x.addBatch(rows[batch][0], rows[batch][1], rows[batch][2]);
            }
            sets.due("of " + number, rows[number][0], () -> x.leastLateness());
            orders.due("of " + number, rows[number][0], () -> x.leastLatenessByOrders());
        }
    }

    private static void bestFirst() {
        Sentence lowest = Sentence.of(37, "Returns the batch with the lowest id with which an order with the least lateness can begin.");
        lowest.due("of one", 0, () -> withBatches(1).bestFirst());
        lowest.due("of seven equal ones", 0, () -> withBatches(7).bestFirst());
        NeedleBakery x = withBatches(7);
        x.dropBatch(0);
        lowest.due("of six equal ones", 1, () -> x.bestFirst());
        NeedleBakery y = withBatches(1);
        y.addBatch(10, 11, 1);
        lowest.due("only the second can begin", 1, () -> y.bestFirst());
        NeedleBakery z = withBatches(1);
        z.addBatch(10, 20, 1);
        lowest.due("both can begin", 0, () -> z.bestFirst());
        NeedleBakery late = new NeedleBakery();
        late.addBatch(10, 10, 1);
        late.addBatch(10, 10, 9);
        lowest.due("the first is late in the best order", 1, () -> late.bestFirst());
        Sentence none = Sentence.of(37, "Throws `NoSuchElementException` if no batch waits");
        none.refuses("of a new bakery", NO_ELEMENT, NeedleBakery::new, w -> w.bestFirst());
        none.refuses("after the last was baked", NO_ELEMENT, () -> {
            NeedleBakery w = withBatches(1);
            w.bake(0);
            return w;
        }, w -> w.bestFirst());
    }

    private static void accounts() {
        Sentence count = Sentence.of(39, "Returns the number of batches that have been baked so far.");
        Sentence returned = Sentence.of(39, "Returns the number of batches.");
        Sentence total = Sentence.of(40, "Returns the sum of the latenesses of all batches that have been baked so far.");
        NeedleBakery x = withBatches(4);
        count.due("none", 0, () -> x.bakedCount());
        total.due("none", 0L, () -> x.latenessTotal());
        x.dropBatch(0);
        count.due("a dropped one", 0, () -> x.bakedCount());
        x.bake(1);
        x.bake(2);
        total.due("two in time", 0L, () -> x.latenessTotal());
        x.bake(3);
        returned.due("three", 3, () -> x.bakedCount());
        total.due("one late", 30L, () -> x.latenessTotal());
    }

    private static void bakingShare() {
        Sentence share = Sentence.of(41, "Returns the baking minutes of all baked batches divided by the clock, both converted to float.");
        NeedleBakery x = withBatches(2);
        x.bake(0);
        share.due("nothing but baking", 1.0f, () -> x.bakingShare());
        x.rest(5);
        x.dropBatch(1);
        share.due("baking and resting", 10.0f / 15.0f, () -> x.bakingShare());
        NeedleBakery y = withBatches(2);
        y.rest(1);
        share.due("nothing but resting", 0.0f, () -> y.bakingShare());
        Sentence zero = Sentence.of(41, "Throws `ArithmeticException` if the clock is 0");
        zero.refuses("of a new bakery", ARITHMETIC, NeedleBakery::new, z -> z.bakingShare());
        zero.refuses("with batches that wait", ARITHMETIC, () -> withBatches(7), z -> z.bakingShare());
        y.undo();
        zero.throwsDue("after the only rest was undone", ARITHMETIC, () -> y.bakingShare());
    }
}
