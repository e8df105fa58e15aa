/** The boundary sentences on needles and rejects: promises 1 to 12, and what the Terms say of them. */
final class NeedleBoundaries extends Scenes {
    private NeedleBoundaries() {
    }

    static void test() {
        newObject();
        termsOfNeedles();
        termsOfRejects();
        addNeedle();
        addNeedleRefused();
        setDeviation();
        setDeviationRefused();
        shift();
        shiftRefused();
        correct();
        correctRefused();
        discard();
        setTolerance();
        needleQueries();
        noSuchNeedle();
    }

    private static void newObject() {
        Sentence s = Sentence.of(1, "Creates a bakery without needles and batches.");
        NeedleBakery x = new NeedleBakery();
        s.due("needleCount", 0, () -> x.needleCount());
        s.due("goodCount", 0, () -> x.goodCount());
        s.due("batchCount", 0, () -> x.batchCount());
        s.throwsDue("strengthOf(0)", INDEX, () -> x.strengthOf(0));
        s.throwsDue("batchAt(0)", INDEX, () -> x.batchAt(0));
        s.throwsDue("needleAtRank(0)", NO_ELEMENT, () -> x.needleAtRank(0));
        s.throwsDue("bake(0)", NO_ELEMENT, () -> x.bake(0));
    }

    private static void termsOfNeedles() {
        Sentence s = Sentence.ofTerms("At most 8 needles exist, numbered from 0 in the order in which they were added; they are never removed.");
        NeedleBakery x = new NeedleBakery();
        for (int needle = 0; needle < 8; needle++) {
            int due = needle;
            s.due("addNeedle, number " + due, due, () -> x.addNeedle(99 - due));
        }
        s.throwsDue("a ninth", STATE, () -> x.addNeedle(50));
        x.discard(0);
        x.discard(7);
        s.due("needleCount with discarded ones", 8, () -> x.needleCount());
        s.throwsDue("a ninth, two being discarded", STATE, () -> x.addNeedle(50));
        for (int needle = 0; needle < 8; needle++) {
            int asked = needle;
            s.due("strengthOf(" + asked + ")", 99 - asked, () -> x.strengthOf(asked));
        }
        termsOfTables();
    }

    private static void termsOfTables() {
        Sentence s = Sentence.ofTerms(
                "A needle has a strength from 1 to 99 and a table with 8 deviations, each from -20 to 20 degrees and at first 0.");
        NeedleBakery x = withNeedles(1, 99);
        s.due("the least strength", 1, () -> x.strengthOf(0));
        s.due("the greatest strength", 99, () -> x.strengthOf(1));
        for (int heading = 0; heading < 8; heading++) {
            int h = heading;
            s.due("heading " + h + " at first", 0, () -> x.setDeviation(1, h, -20));
            s.due("heading " + h + " at -20", -20, () -> x.setDeviation(1, h, 20));
            s.due("heading " + h + " at 20", 20, () -> x.deviationAt(1, 45 * h));
            s.throwsDue("heading " + h + " to 21", ARGUMENT, () -> x.setDeviation(1, h, 21));
            s.throwsDue("heading " + h + " to -21", ARGUMENT, () -> x.setDeviation(1, h, -21));
        }
        s.due("the other table", " 0 0 0 0 0 0 0 0", () -> tableOf(x, 0));
        s.throwsDue("heading 8", ARGUMENT, () -> x.setDeviation(1, 8, 0));
        s.throwsDue("heading -1", ARGUMENT, () -> x.setDeviation(1, -1, 0));
        s.throwsDue("a shift to 21", UNSUPPORTED, () -> x.shift(1, 1));
    }

    private static void termsOfRejects() {
        Sentence range = Sentence.ofTerms("The tolerance is from 0 to 20 degrees, at first 10.");
        NeedleBakery x = new NeedleBakery();
        range.due("at first", 10, () -> x.tolerance());
        range.range(0, 20, ARGUMENT, NeedleBakery::new, (y, number) -> y.setTolerance(number));
        Sentence reject = Sentence.ofTerms(
                "A needle is a reject if a deviation in its table, without its sign, is greater than the tolerance.");
        for (int tolerance : new int[] {0, 1, 10, 19, 20}) {
            NeedleBakery y = withNeedles(40);
            y.setTolerance(tolerance);
            reject.due("a table of 0 at the tolerance " + tolerance, false, () -> y.isReject(0));
            for (int degrees = -20; degrees <= 20; degrees++) {
                int heading = degrees & 7;
                y.setDeviation(0, heading, degrees);
                boolean due = degrees < -tolerance || degrees > tolerance;
                reject.due(degrees + " degrees at the tolerance " + tolerance, due, () -> y.isReject(0));
                y.setDeviation(0, heading, 0);
            }
        }
        Sentence good = Sentence.ofTerms("A needle is good if it is neither discarded nor a reject.");
        NeedleBakery z = withNeedles(1, 2, 3, 4);
        z.setDeviation(1, 0, 11);
        z.setDeviation(3, 0, 11);
        z.discard(2);
        z.discard(3);
        good.due("one of each kind", 1, () -> z.goodCount());
        good.due("the mean of the good one", 0.0, () -> z.meanError());
        z.setTolerance(11);
        good.due("without rejects", 2, () -> z.goodCount());
        z.discard(0);
        z.discard(1);
        good.due("all discarded", 0, () -> z.goodCount());
    }

    private static void addNeedle() {
        Sentence zeros = Sentence.of(2, "Adds a needle whose deviations are 0.");
        NeedleBakery x = withTable(1, 2, 3, 4, 5, 6, 7);
        for (int undone = 0; undone < 8; undone++) {
            x.undo();
        }
        zeros.due("the undone needle's number is given anew", 0, () -> x.addNeedle(50));
        zeros.due("the table in its place", " 0 0 0 0 0 0 0 0", () -> tableOf(x, 0));
        NeedleBakery y = withNeedles(40, 41, 42, 43, 44, 45, 46, 47);
        zeros.due("the eighth table", " 0 0 0 0 0 0 0 0", () -> tableOf(y, 7));
        Sentence strength = Sentence.of(2, "`strength`: the strength, 1 to 99");
        strength.due("the least", 1, () -> withNeedles(1).strengthOf(0));
        strength.due("the greatest", 99, () -> withNeedles(99).strengthOf(0));
        strength.range(1, 99, ARGUMENT, NeedleBakery::new, (z, number) -> z.addNeedle(number));
        Sentence number = Sentence.of(2, "Returns the number of the needle.");
        number.due("the first", 0, () -> new NeedleBakery().addNeedle(5));
        number.due("the eighth", 7, () -> withNeedles(1, 1, 1, 1, 1, 1, 1).addNeedle(1));
    }

    private static void addNeedleRefused() {
        Sentence range = Sentence.of(2, "Throws `IllegalArgumentException` if the strength is out of range");
        range.refuses("addNeedle(0)", ARGUMENT, Scenes::lived, x -> x.addNeedle(0));
        range.refuses("addNeedle(100)", ARGUMENT, Scenes::lived, x -> x.addNeedle(100));
        range.refuses("addNeedle(-1)", ARGUMENT, NeedleBakery::new, x -> x.addNeedle(-1));
        range.refuses("addNeedle(0) as a ninth", ARGUMENT, Scenes::withEightNeedles, x -> x.addNeedle(0));
        Sentence full = Sentence.of(2, "Throws `IllegalStateException` if there are 8 needles");
        full.refuses("addNeedle(1) as a ninth", STATE, Scenes::withEightNeedles, x -> x.addNeedle(1));
        full.refuses("addNeedle(99) as a ninth", STATE, Scenes::withEightNeedles, x -> x.addNeedle(99));
        full.due("an eighth", 7, () -> withNeedles(1, 2, 3, 4, 5, 6, 7).addNeedle(1));
        full.due("an eighth in place of an undone one", 7, () -> {
            NeedleBakery x = withEightNeedles();
            x.undo();
            return x.addNeedle(1);
        });
    }

    private static void setDeviation() {
        Sentence heading = Sentence.of(3, "`heading`: the heading, 0 to 7");
        heading.range(0, 7, ARGUMENT, Scenes::lived, (x, number) -> x.setDeviation(0, number, 0));
        heading.due("the first and the last", " 9 0 0 0 0 0 0 -9", () -> {
            NeedleBakery x = withNeedles(40);
            x.setDeviation(0, 0, 9);
            x.setDeviation(0, 7, -9);
            return tableOf(x, 0);
        });
        Sentence degrees = Sentence.of(3, "`degrees`: the deviation, -20 to 20");
        degrees.range(-20, 20, ARGUMENT, Scenes::lived, (x, number) -> x.setDeviation(0, 7, number));
        degrees.due("the least and the greatest", " -20 20 0 0 0 0 0 0", () -> tableOf(withTable(-20, 20), 0));
        Sentence previous = Sentence.of(3, "Returns the previous deviation.");
        NeedleBakery x = withNeedles(40);
        previous.due("at first", 0, () -> x.setDeviation(0, 7, -20));
        previous.due("the least", -20, () -> x.setDeviation(0, 7, 20));
        previous.due("the greatest", 20, () -> x.setDeviation(0, 7, 20));
        previous.due("the same again", 20, () -> x.setDeviation(0, 7, 0));
    }

    private static void setDeviationRefused() {
        Sentence range = Sentence.of(3, "Throws `IllegalArgumentException` if the heading or the deviation is out of range");
        range.refuses("heading -1", ARGUMENT, Scenes::lived, x -> x.setDeviation(0, -1, 0));
        range.refuses("heading 8", ARGUMENT, Scenes::lived, x -> x.setDeviation(0, 8, 0));
        range.refuses("heading 8 of the last needle", ARGUMENT, Scenes::lived, x -> x.setDeviation(2, 8, 0));
        range.refuses("-21 degrees", ARGUMENT, Scenes::lived, x -> x.setDeviation(0, 0, -21));
        range.refuses("21 degrees", ARGUMENT, Scenes::lived, x -> x.setDeviation(0, 0, 21));
        range.refuses("both out of range", ARGUMENT, Scenes::lived, x -> x.setDeviation(0, 8, 21));
        range.refuses("heading 8, discarded", ARGUMENT, Scenes::lived, x -> x.setDeviation(1, 8, 0));
        range.refuses("21 degrees, discarded", ARGUMENT, Scenes::lived, x -> x.setDeviation(1, 0, 21));
        Sentence discarded = Sentence.of(3, "Throws `IllegalStateException` if the needle is discarded");
        discarded.refuses("a discarded needle", STATE, Scenes::lived, x -> x.setDeviation(1, 0, 5));
        discarded.refuses("a discarded needle, the same deviation", STATE, Scenes::lived, x -> x.setDeviation(1, 7, 0));
    }

    private static void shift() {
        Sentence all = Sentence.ofTerms("To shift the table of a needle by a number of degrees means to add this number to all of its deviations.");
        NeedleBakery x = withTable(-5, -4, -3, -2, -1, 0, 1, 15);
        x.shift(0, 5);
        all.due("up to 20", " 0 1 2 3 4 5 6 20", () -> tableOf(x, 0));
        x.shift(0, -20);
        all.due("down to -20", " -20 -19 -18 -17 -16 -15 -14 0", () -> tableOf(x, 0));
        Sentence degrees = Sentence.of(4, "`degrees`: the number of degrees, -40 to 40");
        NeedleBakery y = withTable(-20, -20, -20, -20, -20, -20, -20, -20);
        degrees.throwsDue("41", ARGUMENT, () -> y.shift(0, 41));
        degrees.due("40", 3200, () -> y.shift(0, 40));
        degrees.throwsDue("-41", ARGUMENT, () -> y.shift(0, -41));
        degrees.due("-40", 3200, () -> y.shift(0, -40));
        degrees.due("the table then", " -20 -20 -20 -20 -20 -20 -20 -20", () -> tableOf(y, 0));
        degrees.throwsDue("the least int", ARGUMENT, () -> y.shift(0, Integer.MIN_VALUE));
        degrees.throwsDue("the greatest int", ARGUMENT, () -> y.shift(0, Integer.MAX_VALUE));
        Sentence error = Sentence.of(4, "Returns the error of the table afterwards.");
        NeedleBakery z = withTable(1, 2, 3, 4, 5, 6, 7, 8);
        error.due("by 0", 204, () -> z.shift(0, 0));
        error.due("by -4", 9 + 4 + 1 + 0 + 1 + 4 + 9 + 16, () -> z.shift(0, -4));
    }

    private static void shiftRefused() {
        Sentence range = Sentence.of(4, "Throws `IllegalArgumentException` if the number of degrees is out of range");
        range.refuses("41", ARGUMENT, Scenes::lived, x -> x.shift(0, 41));
        range.refuses("-41", ARGUMENT, Scenes::lived, x -> x.shift(0, -41));
        range.refuses("41, discarded", ARGUMENT, Scenes::lived, x -> x.shift(1, 41));
        range.refuses("-41, discarded", ARGUMENT, Scenes::lived, x -> x.shift(1, -41));
        Sentence discarded = Sentence.of(4, "Throws `IllegalStateException` if the needle is discarded");
        discarded.refuses("by 0", STATE, Scenes::lived, x -> x.shift(1, 0));
        discarded.refuses("by 40, which is too far for its table", STATE, Scenes::lived, x -> x.shift(1, 40));
        Sentence tooFar = Sentence.of(4, "Throws `UnsupportedOperationException` if a deviation would be out of range");
        tooFar.refuses("20 by 1", UNSUPPORTED, Scenes::lived, x -> x.shift(2, 1));
        tooFar.refuses("-20 by -1", UNSUPPORTED, Scenes::lived, x -> x.shift(2, -1));
        tooFar.due("20 and -20 by 0", 3200, () -> lived().shift(2, 0));
        for (int heading = 0; heading < 8; heading++) {
            NeedleBakery x = withNeedles(40);
            x.setDeviation(0, heading, 20);
            tooFar.throwsDue("20 at heading " + heading + " by 1", UNSUPPORTED, () -> x.shift(0, 1));
            x.setDeviation(0, heading, 19);
            tooFar.due("19 at heading " + heading + " by 1", 407, () -> x.shift(0, 1));
            x.setDeviation(0, heading, -20);
            tooFar.throwsDue("-20 at heading " + heading + " by -1", UNSUPPORTED, () -> x.shift(0, -1));
            x.setDeviation(0, heading, -19);
            tooFar.due("-19 at heading " + heading + " by -1", 400, () -> x.shift(0, -1));
        }
    }

    private static void correct() {
        Sentence s = Sentence.of(5, "Shifts the table of a needle by its best shift.");
        NeedleBakery least = withTable(20, 20, 20, 20, 20, 20, 20, 20);
        s.due("by -20", -20, () -> least.correct(0));
        s.due("the table after it", " 0 0 0 0 0 0 0 0", () -> tableOf(least, 0));
        s.due("by 0", 0, () -> least.correct(0));
        s.due("a correction by 0 can be undone", 7, () -> least.undo());
        NeedleBakery most = withTable(-20, -20, -20, -20, -20, -20, -20, -20);
        s.due("by 20", 20, () -> most.correct(0));
        NeedleBakery half = withTable(1, 1, 1, 1, 0, 0, 0, 0);
        s.due("by a half, the shift nearer to 0", 0, () -> half.correct(0));
        s.due("the table after a half", " 1 1 1 1 0 0 0 0", () -> tableOf(half, 0));
        NeedleBakery exact = withTable(-20, 0, 0, 0, 0, 0, -20, 0);
        s.due("to 5", 5, () -> exact.correct(0));
    }

    private static void correctRefused() {
        Sentence discarded = Sentence.of(5, "Throws `IllegalStateException` if the needle is discarded");
        discarded.refuses("a discarded needle", STATE, Scenes::lived, x -> x.correct(1));
        NeedleBakery both = lived();
        both.discard(2);
        discarded.throwsDue("a discarded needle that cannot be corrected", STATE, () -> both.correct(2));
        Sentence tooFar = Sentence.of(5, "Throws `UnsupportedOperationException` if a deviation would be out of range");
        tooFar.refuses("-20 by -15", UNSUPPORTED, Scenes::lived, x -> x.correct(2));
        NeedleBakery below = withTable(-20, 5, 5, 5, 5, 5, 5, 0);
        tooFar.throwsDue("-20 by -1", UNSUPPORTED, () -> below.correct(0));
        below.setDeviation(0, 0, -19);
        tooFar.due("-19 by -1", -1, () -> below.correct(0));
        NeedleBakery above = withTable(0, -5, -5, -5, -5, -5, -5, 20);
        tooFar.throwsDue("20 by 1", UNSUPPORTED, () -> above.correct(0));
        above.setDeviation(0, 7, 19);
        tooFar.due("19 by 1", 1, () -> above.correct(0));
    }

    private static void discard() {
        Sentence count = Sentence.of(6, "Returns the number of discarded needles.");
        NeedleBakery x = withEightNeedles();
        for (int discarded = 1; discarded <= 8; discarded++) {
            int due = discarded;
            count.due("the discard number " + due, due, () -> x.discard(8 - due));
        }
        Sentence discarded = Sentence.of(6, "Throws `IllegalStateException` if the needle is discarded");
        discarded.refuses("a discarded needle", STATE, Scenes::lived, y -> y.discard(1));
        NeedleBakery y = lived();
        y.discard(0);
        discarded.throwsDue("a second time", STATE, () -> y.discard(0));
        y.undo();
        discarded.due("a second time after an undo", 2, () -> y.discard(0));
    }

    private static void setTolerance() {
        Sentence degrees = Sentence.of(7, "`degrees`: the new tolerance, 0 to 20");
        degrees.range(0, 20, ARGUMENT, Scenes::lived, (x, number) -> x.setTolerance(number));
        for (int tolerance = 0; tolerance <= 20; tolerance += 20) {
            NeedleBakery x = new NeedleBakery();
            x.setTolerance(tolerance);
            degrees.due("the tolerance set", tolerance, () -> x.tolerance());
        }
        Sentence rejects = Sentence.of(7, "Returns the number of rejects afterwards, discarded ones included.");
        NeedleBakery y = withEightNeedles();
        for (int needle = 0; needle < 8; needle++) {
            y.setDeviation(needle, needle, needle % 2 == 0 ? 20 : -20);
        }
        y.discard(0);
        y.discard(7);
        rejects.due("at 20", 0, () -> y.setTolerance(20));
        rejects.due("at 19", 8, () -> y.setTolerance(19));
        rejects.due("at 0", 8, () -> y.setTolerance(0));
        rejects.due("without needles", 0, () -> new NeedleBakery().setTolerance(0));
        Sentence range = Sentence.of(7, "Throws `IllegalArgumentException` if the tolerance is out of range");
        range.refuses("-1", ARGUMENT, Scenes::lived, x -> x.setTolerance(-1));
        range.refuses("21", ARGUMENT, Scenes::lived, x -> x.setTolerance(21));
    }

    private static void needleQueries() {
        Sentence count = Sentence.of(8, "Returns the number of needles, discarded ones included.");
        Sentence returned = Sentence.of(8, "Returns the number of needles.");
        count.due("none", 0, () -> new NeedleBakery().needleCount());
        NeedleBakery x = withEightNeedles();
        returned.due("eight", 8, () -> x.needleCount());
        for (int needle = 0; needle < 8; needle++) {
            x.discard(needle);
        }
        count.due("all discarded", 8, () -> x.needleCount());
        Sentence strength = Sentence.of(9, "Returns the strength.");
        strength.due("the least", 1, () -> withNeedles(99, 1).strengthOf(1));
        strength.due("the greatest", 99, () -> withNeedles(99, 1).strengthOf(0));
        strength.due("of a discarded needle", 80, () -> x.strengthOf(7));
        Sentence discarded = Sentence.of(10, "Returns whether it is discarded.");
        for (int needle = 0; needle < 8; needle++) {
            int asked = needle;
            discarded.due("one of eight discarded", true, () -> x.isDiscarded(asked));
        }
        x.undo();
        discarded.due("the last after an undo", false, () -> x.isDiscarded(7));
        discarded.due("the one before it", true, () -> x.isDiscarded(6));
        Sentence tolerance = Sentence.of(12, "Returns the tolerance in degrees.");
        tolerance.due("at first", 10, () -> new NeedleBakery().tolerance());
        Sentence reject = Sentence.of(11, "Returns whether it is a reject, discarded or not.");
        NeedleBakery y = withNeedles(40, 50);
        y.setDeviation(0, 7, 11);
        reject.due("not discarded", true, () -> y.isReject(0));
        y.discard(0);
        y.discard(1);
        reject.due("discarded", true, () -> y.isReject(0));
        reject.due("discarded, but no reject", false, () -> y.isReject(1));
        y.setTolerance(11);
        reject.due("no longer one", false, () -> y.isReject(0));
    }

    private interface NeedleCall {
        Object on(NeedleBakery x, int needle);
    }

    /** The promises of all calls that take a needle say this sentence. */
    private static void noSuchNeedle() {
        noSuchNeedle(3, (x, needle) -> x.setDeviation(needle, 0, 0));
        noSuchNeedle(3, (x, needle) -> x.setDeviation(needle, 8, 21));
        noSuchNeedle(4, (x, needle) -> x.shift(needle, 0));
        noSuchNeedle(4, (x, needle) -> x.shift(needle, 41));
        noSuchNeedle(5, (x, needle) -> x.correct(needle));
        noSuchNeedle(6, (x, needle) -> x.discard(needle));
        noSuchNeedle(9, (x, needle) -> x.strengthOf(needle));
        noSuchNeedle(10, (x, needle) -> x.isDiscarded(needle));
        noSuchNeedle(11, (x, needle) -> x.isReject(needle));
        noSuchNeedle(13, (x, needle) -> x.deviationAt(needle, 0));
        noSuchNeedle(13, (x, needle) -> x.deviationAt(needle, 360));
        noSuchNeedle(14, (x, needle) -> x.trueCourse(needle, 0));
        noSuchNeedle(14, (x, needle) -> x.trueCourse(needle, -1));
        noSuchNeedle(15, (x, needle) -> x.courseFor(needle, 0));
        noSuchNeedle(15, (x, needle) -> x.courseFor(needle, 360));
        noSuchNeedle(16, (x, needle) -> x.courseForNearby(needle, 0));
        noSuchNeedle(16, (x, needle) -> x.courseForNearby(needle, -1));
        noSuchNeedle(17, (x, needle) -> x.missedCourses(needle));
        noSuchNeedle(18, (x, needle) -> x.errorOf(needle));
        noSuchNeedle(19, (x, needle) -> x.bestShift(needle));
        noSuchNeedle(20, (x, needle) -> x.bestShiftBySum(needle));
        noSuchNeedle(26, (x, needle) -> x.partnerOf(needle));
        noSuchNeedle(42, (x, needle) -> x.writeLabel(needle));
    }

    private static void noSuchNeedle(int promise, NeedleCall call) {
        Sentence s = Sentence.of(promise, "Throws `IndexOutOfBoundsException` if there is no such needle");
        s.refuses("needle 0 of none", INDEX, NeedleBakery::new, x -> call.on(x, 0));
        s.refuses("needle 8 of eight", INDEX, Scenes::withEightNeedles, x -> call.on(x, 8));
        // Eight times 1 << 29 is 0 in an int, so that an index made of it would be in range.
        for (int needle : new int[] {-1, 3, 1 << 29, Integer.MIN_VALUE, Integer.MAX_VALUE}) {
            s.refuses("needle " + needle + " of three", INDEX, Scenes::lived, x -> call.on(x, needle));
        }
        NeedleBakery undone = withNeedles(40, 50);
        undone.undo();
        s.throwsDue("a needle that was undone", INDEX, () -> call.on(undone, 1));
    }
}
