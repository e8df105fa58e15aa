/** The boundary sentences on undo, snapshots, exceptions and an object's calls: promises 48 to 50, and the Terms. */
final class UndoBoundaries extends Scenes {
    private UndoBoundaries() {
    }

    static void test() {
        calls();
        modifications();
        noModifications();
        lastEight();
        whatUndoLeaves();
        whatUndoBringsBack();
        whatUndoBringsBackWhenFull();
        exceptionsChangeNothing();
        firstException();
        undo();
        save();
        restore();
        restoreRefused();
    }

    private static void calls() {
        Sentence s = Sentence.ofWhatItIs("An object is used for at most 512 calls after it has been made");
        NeedleBakery rests = new NeedleBakery();
        for (int call = 1; call < 512; call++) {
            rests.rest(60);
        }
        s.due("the 512th call", 511 * 60, () -> rests.clock());
        NeedleBakery ids = new NeedleBakery();
        for (int call = 1; call < 511; call += 2) {
            ids.dropBatch(ids.addBatch(60, 1, 9));
        }
        s.due("the 511th call", 255, () -> ids.addBatch(60, 1, 9));
        s.due("the 512th call", 59 * 9, () -> ids.bake(255));
        NeedleBakery late = new NeedleBakery();
        long sum = 0;
        for (int batch = 0; batch < 255; batch++) {
            late.bake(late.addBatch(60, 1, 9));
            sum += 9L * (60 * batch + 59);
        }
        long due = sum;
        s.due("the 511th call", due, () -> late.latenessTotal());
        s.due("the 512th call", 1.0f, () -> late.bakingShare());
    }

    private static void modifications() {
        Sentence s = Sentence.ofTerms("The successful calls of addNeedle, setDeviation, shift, correct, discard, setTolerance, addBatch, "
                + "dropBatch, bake, rest and execute are modifications.");
        Sentence.Call[] modifications = {x -> x.addNeedle(1), x -> x.setDeviation(0, 0, 9), x -> x.shift(0, 1), x -> x.correct(0),
            x -> x.discard(0), x -> x.setTolerance(0), x -> x.addBatch(1, 1, 1), x -> x.dropBatch(1), x -> x.bake(2),
            x -> x.rest(1), x -> x.execute(), x -> x.setDeviation(0, 0, 1), x -> x.shift(0, 0), x -> x.setTolerance(10)};
        // The last three leave every value as it was, and are modifications all the same.
        for (int i = 0; i < modifications.length; i++) {
            NeedleBakery x = lived();
            x.restore();
            String before = picture(x);
            Sentence.Call modification = modifications[i];
            modification.on(x);
            s.due("undo of the modification " + i, 0, () -> x.undo());
            s.due("the state after undo of the modification " + i, before, () -> picture(x));
            s.throwsDue("a second undo of the modification " + i, STATE, () -> x.undo());
        }
        NeedleBakery x = new NeedleBakery();
        run(x, "rest 1;needle 5;set 0 0 3;limit 2");
        s.due("undo of a program, which is one modification", 0, () -> x.undo());
        s.due("all of it is undone", 0, () -> x.clock() + x.needleCount());
        s.due("the tolerance before it", 10, () -> x.tolerance());
    }

    private static void noModifications() {
        Sentence s = Sentence.ofTerms("The successful calls of addNeedle");
        NeedleBakery x = lived();
        x.restore();
        Sentence.Call[] others = {y -> y.type('x'), y -> y.execute(), y -> y.addNeedle(0), y -> y.setDeviation(1, 0, 0), y -> y.shift(2, 1),
            y -> y.correct(2), y -> y.discard(1), y -> y.setTolerance(21), y -> y.addBatch(0, 0, 0), y -> y.dropBatch(0),
            y -> y.bake(0), y -> y.rest(0), y -> y.writeLabel(0), y -> y.leastLateness(), y -> y.bestShift(0), y -> y.save(),
            y -> y.restore(), y -> y.undo()};
        for (int i = 0; i < others.length; i++) {
            Sentence.Call other = others[i];
            Check.answerOf(() -> other.on(x));
            s.throwsDue("undo after the call " + i + ", which is no modification", STATE, () -> x.undo());
        }
    }

    private static void lastEight() {
        Sentence s = Sentence.ofTerms("The last 8 of them can be undone.");
        for (int made : new int[] {1, 7, 8, 9, 10, 17, 100}) {
            NeedleBakery x = new NeedleBakery();
            for (int minute = 0; minute < made; minute++) {
                x.rest(1);
            }
            int most = Math.min(8, made);
            for (int undone = 1; undone <= most; undone++) {
                int due = most - undone;
                s.due("undo number " + undone + " of " + made, due, () -> x.undo());
            }
            s.throwsDue("one more undo of " + made, STATE, () -> x.undo());
            s.due("the clock after the undos of " + made, made - most, () -> x.clock());
        }
        NeedleBakery x = new NeedleBakery();
        for (int round = 1; round <= 20; round++) {
            x.rest(1);
            x.rest(30);
            x.rest(30);
            x.undo();
            x.undo();
            int clock = round;
            s.due("the clock after two undos, round " + round, clock, () -> x.clock());
        }
        // The third rest of a round leaves eight that can be undone, and two of them are undone at once.
        for (int left = 5; left >= 0; left--) {
            int due = left;
            s.due("undo after the rounds, to " + left, due, () -> x.undo());
        }
        s.throwsDue("one more undo after the rounds", STATE, () -> x.undo());
        s.due("the clock then", 14, () -> x.clock());
    }

    private static void whatUndoLeaves() {
        Sentence s = Sentence.ofTerms("The buffer, the error position, the failed command and the label are not affected by undo and restore");
        NeedleBakery x = new NeedleBakery();
        x.save();
        x.addNeedle(40);
        Check.answerOf(() -> run(x, "rest;"));
        Check.answerOf(() -> run(x, "rest 1;rest 0"));
        x.writeLabel(0);
        typeAll(x, "rest 1");
        x.undo();
        leftAlone(s, "undo", x, 7);
        x.restore();
        leftAlone(s, "restore", x, 8);
        s.throwsDue("the buffer, to which two characters were added", STATE, () -> x.execute());
        NeedleBakery y = new NeedleBakery();
        y.save();
        run(y, "rest 1");
        y.undo();
        s.due("undo of execute brings no buffer back", 1, () -> y.type('x'));
        NeedleBakery z = new NeedleBakery();
        z.save();
        z.rest(1);
        z.undo();
        z.restore();
        s.throwsDue("no label comes of undo and restore", INDEX, () -> z.labelAt(0));
        s.throwsDue("no error position comes of them", NO_ELEMENT, () -> z.errorPosition());
        s.throwsDue("no failed command comes of them", NO_ELEMENT, () -> z.failedCommand());
    }

    private static void leftAlone(Sentence s, String call, NeedleBakery x, int length) {
        s.due("the error position after " + call, 4, () -> x.errorPosition());
        s.due("the failed command after " + call, 1, () -> x.failedCommand());
        s.due("the label after " + call, "0:40 0 0 0 0 0 0 0 0", () -> Reading.label(x));
        s.due("the buffer after " + call, length, () -> x.type('1'));
    }

    private static void whatUndoBringsBack() {
        Sentence s = Sentence.ofTerms("everything else is, including the id that is given next.");
        NeedleBakery x = lived();
        String before = picture(x);
        x.save();
        run(x, ";bake 2;needle 7;discard 0;shift 3 5;batch 1/1 1");
        x.undo();
        s.due("the state after undo", before, () -> picture(x));
        s.due("the id that is given next after undo", 4, () -> x.addBatch(1, 1, 1));
        s.due("the number that is given next after undo", 3, () -> x.addNeedle(1));
        run(x, "bake 4;bake 2;discard 3;rest 60");
        x.restore();
        s.due("the state after restore", before, () -> picture(x));
        s.due("the id that is given next after restore", 4, () -> x.addBatch(1, 1, 1));
        s.due("the number that is given next after restore", 3, () -> x.addNeedle(1));
        s.due("the strength under it", 1, () -> x.strengthOf(3));
        s.due("the table under it", " 0 0 0 0 0 0 0 0", () -> tableOf(x, 3));
        s.due("no needle of it is discarded", false, () -> x.isDiscarded(3));
    }

    private static NeedleBakery fullOfBoth() {
        NeedleBakery x = withNeedles(99, 98, 97, 96, 95, 94, 93, 92);
        for (int batch = 0; batch < 7; batch++) {
            x.addBatch(10 + batch, 1 + batch, 9 - batch);
        }
        table(x, 7, 1, 2, 3, 4, 5, 6, 7, 8);
        return x;
    }

    /** Undo and restore bring back the last needle and the last batch of a full bakery as well. */
    private static void whatUndoBringsBackWhenFull() {
        Sentence s = Sentence.ofTerms("everything else is, including the id that is given next.");
        String before = picture(fullOfBoth());
        Sentence.Call[] changes = {y -> y.setDeviation(7, 7, -20), y -> y.shift(7, 12), y -> y.correct(7), y -> y.discard(7),
            y -> y.dropBatch(6), y -> y.bake(0), y -> run(y, "drop 6;batch 1/999 9;set 7 0 20;discard 0")};
        for (int i = 0; i < changes.length; i++) {
            NeedleBakery x = fullOfBoth();
            x.save();
            changes[i].on(x);
            x.undo();
            s.due("the state after undo of the change " + i, before, () -> picture(x));
            changes[i].on(x);
            x.restore();
            s.due("the state after restore from the change " + i, before, () -> picture(x));
        }
        NeedleBakery y = withNeedles(99, 98, 97, 96, 95, 94, 93);
        y.addNeedle(92);
        y.addBatch(1, 1, 1);
        y.save();
        y.undo();
        y.undo();
        y.addNeedle(5);
        y.setDeviation(7, 7, 20);
        y.discard(7);
        y.addBatch(60, 999, 9);
        y.restore();
        s.due("the strength of before, under a number given anew", 92, () -> y.strengthOf(7));
        s.due("the table of before", " 0 0 0 0 0 0 0 0", () -> tableOf(y, 7));
        s.due("not discarded as before", false, () -> y.isDiscarded(7));
        s.due("the batch of before, under an id given anew", 0, () -> y.bake(0));
        s.due("its minutes", 1, () -> y.clock());
    }

    /** One refusal of each kind; every sentence on a refusal has more of them in the other classes. */
    private static void exceptionsChangeNothing() {
        Sentence s = Sentence.ofTerms("A method that throws an exception changes nothing, except that execute empties the buffer.");
        s.refuses("addNeedle", ARGUMENT, Scenes::lived, x -> x.addNeedle(0));
        s.refuses("setDeviation", STATE, Scenes::lived, x -> x.setDeviation(1, 0, 5));
        s.refuses("shift", UNSUPPORTED, Scenes::lived, x -> x.shift(2, 1));
        s.refuses("shift by the most", UNSUPPORTED, Scenes::lived, x -> x.shift(0, 40));
        s.refuses("correct", UNSUPPORTED, Scenes::lived, x -> x.correct(2));
        s.refuses("discard", STATE, Scenes::lived, x -> x.discard(1));
        s.refuses("setTolerance", ARGUMENT, Scenes::lived, x -> x.setTolerance(21));
        s.refuses("addBatch", ARGUMENT, Scenes::lived, x -> x.addBatch(1, 1, 0));
        s.refuses("addBatch as an eighth", STATE, () -> withBatches(7), x -> x.addBatch(1, 1, 1));
        s.refuses("dropBatch", NO_ELEMENT, Scenes::lived, x -> x.dropBatch(4));
        s.refuses("bake", NO_ELEMENT, Scenes::lived, x -> x.bake(4));
        s.refuses("rest", ARGUMENT, Scenes::lived, x -> x.rest(0));
        s.refuses("writeLabel", INDEX, Scenes::lived, x -> x.writeLabel(3));
        s.refuses("type", ARGUMENT, Scenes::lived, x -> x.type('\n'));
        s.refuses("undo", STATE, NeedleBakery::new, x -> x.undo());
        s.refuses("restore", STATE, () -> withBatches(2), x -> x.restore());
        NeedleBakery x = typed("needle 5;rest 0");
        s.throwsDue("execute of a failing program", STATE, () -> x.execute());
        s.due("needleCount after it", 0, () -> x.needleCount());
        s.throwsDue("undo after it", STATE, () -> x.undo());
        s.due("the buffer after it", 1, () -> x.type('x'));
        s.throwsDue("execute of a malformed program", ARGUMENT, () -> x.execute());
        s.due("the buffer after it too", 1, () -> x.type('x'));
        NeedleBakery y = withBatches(8 - 1);
        y.rest(1);
        y.rest(1);
        Check.answerOf(() -> run(y, "rest 1;rest 0"));
        for (int left = 7; left >= 0; left--) {
            int due = left;
            s.due("undo after a failing program, to " + left, due, () -> y.undo());
        }
        s.due("the state of before the last eight", 1, () -> y.batchCount());
    }

    private static void firstException() {
        Sentence s = Sentence.ofTerms("If several exceptions apply, the one that is documented first is thrown.");
        s.refuses("addNeedle", ARGUMENT, Scenes::withEightNeedles, x -> x.addNeedle(100));
        s.refuses("setDeviation of no needle", INDEX, Scenes::lived, x -> x.setDeviation(3, 8, 21));
        s.refuses("setDeviation of a discarded one", ARGUMENT, Scenes::lived, x -> x.setDeviation(1, -1, 0));
        s.refuses("shift of no needle", INDEX, Scenes::lived, x -> x.shift(-1, 41));
        s.refuses("shift of a discarded one", ARGUMENT, Scenes::lived, x -> x.shift(1, -41));
        s.refuses("shift of a discarded one, too far", STATE, Scenes::lived, x -> x.shift(1, 21));
        s.refuses("shift by too much, too far", ARGUMENT, Scenes::lived, x -> x.shift(2, 41));
        s.refuses("correct of a discarded one, too far", STATE, UndoBoundaries::livedWithDiscarded, x -> x.correct(2));
        s.refuses("deviationAt", INDEX, Scenes::lived, x -> x.deviationAt(3, 360));
        s.refuses("trueCourse", INDEX, Scenes::lived, x -> x.trueCourse(3, 360));
        s.refuses("courseFor", INDEX, Scenes::lived, x -> x.courseFor(3, 360));
        s.refuses("courseFor of no true course", ARGUMENT, Scenes::lived, x -> x.courseFor(2, 360));
        s.refuses("courseForNearby", INDEX, Scenes::lived, x -> x.courseForNearby(3, 360));
        s.refuses("courseForNearby of no true course", ARGUMENT, Scenes::lived, x -> x.courseForNearby(2, 360));
        s.refuses("partnerOf", INDEX, Scenes::lived, x -> x.partnerOf(3));
        s.refuses("addBatch", ARGUMENT, () -> withBatches(7), x -> x.addBatch(1, 1000, 1));
        s.refuses("type", ARGUMENT, () -> typed("123456789 123456789 123456789 123456789 123456789 1234567890"), x -> x.type((char) 127));
        NeedleBakery x = typed("rest 0;rest");
        s.throwsDue("execute", ARGUMENT, () -> x.execute());
        s.throwsDue("no command failed", NO_ELEMENT, () -> x.failedCommand());
    }

    private static NeedleBakery livedWithDiscarded() {
        NeedleBakery x = lived();
        x.discard(2);
        return x;
    }

    private static void undo() {
        Sentence left = Sentence.of(48, "Returns the number of modifications that can still be undone.");
        NeedleBakery one = withNeedles(40);
        left.due("of one", 0, () -> one.undo());
        NeedleBakery nine = withTable(1, 2, 3, 4, 5, 6, 7, 8);
        left.due("of nine", 7, () -> nine.undo());
        Sentence last = Sentence.of(48, "Undoes the last modification that can be undone.");
        last.due("the table of nine", " 1 2 3 4 5 6 7 0", () -> tableOf(nine, 0));
        nine.undo();
        last.due("the table after one more", " 1 2 3 4 5 6 0 0", () -> tableOf(nine, 0));
        Sentence none = Sentence.of(48, "Throws `IllegalStateException` if there is none");
        none.refuses("of a new bakery", STATE, NeedleBakery::new, x -> x.undo());
        none.throwsDue("after all were undone", STATE, () -> {
            one.undo();
            return 0;
        });
        NeedleBakery restored = lived();
        restored.restore();
        none.throwsDue("after restore", STATE, () -> restored.undo());
        NeedleBakery saved = new NeedleBakery();
        saved.save();
        none.throwsDue("after save", STATE, () -> saved.undo());
    }

    private static void save() {
        Sentence clock = Sentence.of(49, "Returns the clock.");
        clock.due("at 0", 0, () -> new NeedleBakery().save());
        Sentence restored = Sentence.of(50, "Returns the clock.");
        NeedleBakery zero = new NeedleBakery();
        zero.save();
        zero.rest(1);
        restored.due("at 0", 0, () -> zero.restore());
        Sentence replaces = Sentence.of(49, "Saves the state as a snapshot, which replaces an earlier one.");
        NeedleBakery x = new NeedleBakery();
        x.save();
        x.rest(1);
        clock.due("at 1", 1, () -> x.save());
        x.rest(1);
        replaces.due("save again", 2, () -> x.save());
        x.rest(1);
        replaces.due("the last of three", 2, () -> x.restore());
        replaces.due("once more", 2, () -> x.restore());
        NeedleBakery y = new NeedleBakery();
        y.rest(5);
        y.save();
        replaces.due("save leaves what can be undone", 0, () -> y.undo());
        replaces.due("undo leaves the snapshot", 5, () -> y.restore());
        NeedleBakery z = lived();
        String due = picture(z);
        z.save();
        for (Sentence.Call change : new Sentence.Call[] {w -> w.setDeviation(0, 3, 9), w -> w.discard(0), w -> w.bake(1), w -> w.addNeedle(3)}) {
            change.on(z);
        }
        z.restore();
        replaces.due("what was saved is not changed with the state", due, () -> picture(z));
    }

    private static void restore() {
        Sentence kept = Sentence.of(50, "Restores the snapshot, which is kept.");
        NeedleBakery x = lived();
        x.restore();
        String due = picture(x);
        for (int time = 2; time <= 4; time++) {
            x.setDeviation(0, 1, time);
            x.bake(2);
            x.discard(2);
            x.rest(60);
            kept.due("restore number " + time, 10, () -> x.restore());
            kept.due("the state after restore number " + time, due, () -> picture(x));
        }
        Sentence nothing = Sentence.of(50, "Afterwards nothing can be undone.");
        nothing.throwsDue("undo", STATE, () -> x.undo());
        x.rest(1);
        nothing.due("undo of what came after", 0, () -> x.undo());
        nothing.throwsDue("undo of what came before", STATE, () -> x.undo());
        for (int minute = 0; minute < 9; minute++) {
            x.rest(1);
        }
        nothing.due("undo of nine that came after", 7, () -> x.undo());
        NeedleBakery y = new NeedleBakery();
        y.save();
        for (int minute = 0; minute < 9; minute++) {
            y.rest(1);
        }
        y.restore();
        nothing.throwsDue("undo after restore of a full history", STATE, () -> y.undo());
    }

    private static void restoreRefused() {
        Sentence s = Sentence.of(50, "Throws `IllegalStateException` if there is no snapshot");
        s.refuses("of a new bakery", STATE, NeedleBakery::new, x -> x.restore());
        s.refuses("with modifications", STATE, () -> withBatches(7), x -> x.restore());
        NeedleBakery x = new NeedleBakery();
        x.save();
        s.due("a snapshot of a new bakery", 0, () -> x.restore());
    }
}
