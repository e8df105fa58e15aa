/** For each promise of the document: ordinary inputs, edges and wrong inputs, with answers worked out by hand. */
public final class PromiseTests extends Scenes {
    public static void main(String[] arguments) {
        newObject();
        addNeedle();
        setDeviation();
        shift();
        correct();
        discard();
        setTolerance();
        needleQueries();
        tolerance();
        deviationAt();
        trueCourse();
        courseFor();
        missedCourses();
        errorOf();
        bestShift();
        needleAtRank();
        meanError();
        goodCount();
        leastDifference();
        partnerOf();
        addBatch();
        dropBatch();
        bake();
        rest();
        batchQueries();
        latenessNow();
        leastLateness();
        bestFirst();
        latenessByIds();
        bakedAccounts();
        bakingShare();
        writeLabel();
        type();
        execute();
        executeEachCommand();
        errorPosition();
        failedCommand();
        undo();
        undoEachModification();
        saveAndRestore();
        whatUndoAndRestoreLeave();
        refusalsChangeNothing();
        fullBakery();
        stateBehindUndoneNeedles();
        Check.end("PromiseTests");
    }

    private static void newObject() {
        NeedleBakery x = new NeedleBakery();
        Check.due("new needleCount", 0, () -> x.needleCount());
        Check.due("new batchCount", 0, () -> x.batchCount());
        Check.due("new clock", 0, () -> x.clock());
        Check.due("new tolerance", 10, () -> x.tolerance());
        Check.due("new bakedCount", 0, () -> x.bakedCount());
        Check.due("new latenessTotal", 0L, () -> x.latenessTotal());
        Check.throwsDue("new labelAt", INDEX, () -> x.labelAt(0));
        Check.throwsDue("new errorPosition", NO_ELEMENT, () -> x.errorPosition());
        Check.throwsDue("new failedCommand", NO_ELEMENT, () -> x.failedCommand());
        Check.throwsDue("new undo", STATE, () -> x.undo());
        Check.throwsDue("new restore", STATE, () -> x.restore());
        Check.due("first type", 1, () -> x.type('a'));
        Check.due("the bakeries share nothing", 0, () -> {
            withNeedles(5, 6);
            return x.needleCount();
        });
    }

    private static void addNeedle() {
        NeedleBakery x = new NeedleBakery();
        Check.throwsDue("addNeedle(0)", ARGUMENT, () -> x.addNeedle(0));
        Check.throwsDue("addNeedle(100)", ARGUMENT, () -> x.addNeedle(100));
        Check.throwsDue("addNeedle(least int)", ARGUMENT, () -> x.addNeedle(Integer.MIN_VALUE));
        Check.due("addNeedle(1)", 0, () -> x.addNeedle(1));
        Check.due("addNeedle(99)", 1, () -> x.addNeedle(99));
        Check.due("the deviations of a new needle", " 0 0 0 0 0 0 0 0", () -> tableOf(x, 1));
        for (int needle = 2; needle < 8; needle++) {
            int due = needle;
            Check.due("addNeedle to the eighth", due, () -> x.addNeedle(50));
        }
        Check.throwsDue("a ninth needle", STATE, () -> x.addNeedle(50));
        Check.throwsDue("a ninth needle out of range", ARGUMENT, () -> x.addNeedle(0));
        x.discard(3);
        Check.throwsDue("a discarded needle still takes its place", STATE, () -> x.addNeedle(50));
    }

    private static void setDeviation() {
        NeedleBakery x = withNeedles(40, 50);
        Check.due("setDeviation(0, 0, 20)", 0, () -> x.setDeviation(0, 0, 20));
        Check.due("setDeviation(0, 0, -20)", 20, () -> x.setDeviation(0, 0, -20));
        Check.due("setDeviation(0, 7, 5)", 0, () -> x.setDeviation(0, 7, 5));
        Check.due("setDeviation(0, 7, 5) again", 5, () -> x.setDeviation(0, 7, 5));
        Check.due("the table", " -20 0 0 0 0 0 0 5", () -> tableOf(x, 0));
        Check.due("the other table", " 0 0 0 0 0 0 0 0", () -> tableOf(x, 1));
        Check.throwsDue("setDeviation(-1, ..)", INDEX, () -> x.setDeviation(-1, 9, 99));
        Check.throwsDue("setDeviation(2, ..)", INDEX, () -> x.setDeviation(2, 0, 0));
        Check.throwsDue("setDeviation(0, 8, 0)", ARGUMENT, () -> x.setDeviation(0, 8, 0));
        Check.throwsDue("setDeviation(0, -1, 0)", ARGUMENT, () -> x.setDeviation(0, -1, 0));
        Check.throwsDue("setDeviation(0, 0, 21)", ARGUMENT, () -> x.setDeviation(0, 0, 21));
        Check.throwsDue("setDeviation(0, 0, -21)", ARGUMENT, () -> x.setDeviation(0, 0, -21));
        x.discard(1);
        Check.throwsDue("setDeviation of a discarded one", STATE, () -> x.setDeviation(1, 0, 0));
        Check.throwsDue("setDeviation of a discarded one, wrong", ARGUMENT, () -> x.setDeviation(1, 8, 0));
    }

    private static void shift() {
        NeedleBakery x = withNeedles(40, 50);
        table(x, 0, -20, -20, -20, -20, -20, -20, -20, -20);
        Check.due("shift(0, 40)", 8 * 400, () -> x.shift(0, 40));
        Check.due("the table after shift(0, 40)", " 20 20 20 20 20 20 20 20", () -> tableOf(x, 0));
        Check.throwsDue("shift(0, 1)", UNSUPPORTED, () -> x.shift(0, 1));
        Check.due("shift(0, -40)", 8 * 400, () -> x.shift(0, -40));
        Check.throwsDue("shift(0, -1)", UNSUPPORTED, () -> x.shift(0, -1));
        Check.due("shift(0, 23)", 8 * 9, () -> x.shift(0, 23));
        Check.due("shift(0, 0)", 8 * 9, () -> x.shift(0, 0));
        Check.throwsDue("shift(0, 41)", ARGUMENT, () -> x.shift(0, 41));
        Check.throwsDue("shift(0, -41)", ARGUMENT, () -> x.shift(0, -41));
        Check.throwsDue("shift(2, 41)", INDEX, () -> x.shift(2, 41));
        Check.throwsDue("shift(-1, 0)", INDEX, () -> x.shift(-1, 0));
        table(x, 1, 1, 0, 0, 0, 0, 0, 0, 20);
        Check.throwsDue("shift(1, 1)", UNSUPPORTED, () -> x.shift(1, 1));
        Check.due("a refused shift changes nothing", " 1 0 0 0 0 0 0 20", () -> tableOf(x, 1));
        x.discard(1);
        Check.throwsDue("shift of a discarded one", STATE, () -> x.shift(1, 1));
        Check.throwsDue("shift of a discarded one, wrong", ARGUMENT, () -> x.shift(1, 41));
    }

    private static void correct() {
        NeedleBakery x = withNeedles(40, 50, 60);
        table(x, 0, 1, 2, 3, 4, 5, 6, 7, 9);
        Check.due("correct(0)", -5, () -> x.correct(0));
        Check.due("the table after correct(0)", " -4 -3 -2 -1 0 1 2 4", () -> tableOf(x, 0));
        Check.due("correct(0) again", 0, () -> x.correct(0));
        table(x, 1, -20, 20, 20, 20, 20, 20, 20, 20);
        Check.throwsDue("correct(1)", UNSUPPORTED, () -> x.correct(1));
        Check.due("a refused correction changes nothing", " -20 20 20 20 20 20 20 20", () -> tableOf(x, 1));
        Check.throwsDue("correct(3)", INDEX, () -> x.correct(3));
        Check.throwsDue("correct(-1)", INDEX, () -> x.correct(-1));
        x.discard(1);
        Check.throwsDue("correct of a discarded one", STATE, () -> x.correct(1));
    }

    private static void discard() {
        NeedleBakery x = withNeedles(40, 50);
        Check.throwsDue("discard(2)", INDEX, () -> x.discard(2));
        Check.throwsDue("discard(-1)", INDEX, () -> x.discard(-1));
        Check.due("discard(1)", 1, () -> x.discard(1));
        Check.throwsDue("discard(1) again", STATE, () -> x.discard(1));
        Check.due("discard(0)", 2, () -> x.discard(0));
        Check.due("discarded ones count", 2, () -> x.needleCount());
    }

    private static void setTolerance() {
        NeedleBakery x = withNeedles(40, 50, 60);
        x.setDeviation(0, 3, 5);
        x.setDeviation(1, 3, -6);
        x.discard(1);
        Check.due("setTolerance(5)", 1, () -> x.setTolerance(5));
        Check.due("setTolerance(4)", 2, () -> x.setTolerance(4));
        Check.due("setTolerance(0)", 2, () -> x.setTolerance(0));
        Check.due("setTolerance(20)", 0, () -> x.setTolerance(20));
        Check.throwsDue("setTolerance(21)", ARGUMENT, () -> x.setTolerance(21));
        Check.throwsDue("setTolerance(-1)", ARGUMENT, () -> x.setTolerance(-1));
        Check.due("a refused tolerance changes nothing", 20, () -> x.tolerance());
    }

    private static void needleQueries() {
        NeedleBakery x = withNeedles(40, 99);
        Check.due("needleCount", 2, () -> x.needleCount());
        Check.due("strengthOf(0)", 40, () -> x.strengthOf(0));
        Check.due("strengthOf(1)", 99, () -> x.strengthOf(1));
        Check.throwsDue("strengthOf(2)", INDEX, () -> x.strengthOf(2));
        Check.throwsDue("strengthOf(-1)", INDEX, () -> x.strengthOf(-1));
        Check.due("isDiscarded(1)", false, () -> x.isDiscarded(1));
        x.discard(1);
        Check.due("isDiscarded(1) then", true, () -> x.isDiscarded(1));
        Check.due("isDiscarded(0)", false, () -> x.isDiscarded(0));
        Check.throwsDue("isDiscarded(2)", INDEX, () -> x.isDiscarded(2));
        Check.throwsDue("isDiscarded(-1)", INDEX, () -> x.isDiscarded(-1));
        x.setDeviation(0, 0, 10);
        Check.due("isReject at the tolerance", false, () -> x.isReject(0));
        x.setDeviation(0, 0, 11);
        Check.due("isReject beyond it", true, () -> x.isReject(0));
        x.setDeviation(0, 0, -10);
        Check.due("isReject at minus the tolerance", false, () -> x.isReject(0));
        x.setDeviation(0, 7, -11);
        Check.due("isReject beyond minus the tolerance", true, () -> x.isReject(0));
        x.discard(0);
        Check.due("isReject of a discarded one", true, () -> x.isReject(0));
        Check.due("isReject of a discarded good table", false, () -> x.isReject(1));
        Check.throwsDue("isReject(2)", INDEX, () -> x.isReject(2));
        Check.throwsDue("isReject(-1)", INDEX, () -> x.isReject(-1));
    }

    private static void tolerance() {
        NeedleBakery x = new NeedleBakery();
        Check.due("tolerance at first", 10, () -> x.tolerance());
        x.setTolerance(3);
        Check.due("tolerance then", 3, () -> x.tolerance());
    }

    private static void deviationAt() {
        NeedleBakery x = withNeedles(40, 50);
        table(x, 0, 0, 9, -6, 0, 0, 0, 0, 20);
        Check.due("deviationAt(0, 45)", 9, () -> x.deviationAt(0, 45));
        Check.due("deviationAt(0, 46)", 8, () -> x.deviationAt(0, 46));
        Check.due("deviationAt(0, 85), rounded down", -5, () -> x.deviationAt(0, 85));
        Check.due("deviationAt(0, 91), rounded down", -6, () -> x.deviationAt(0, 91));
        Check.due("deviationAt(0, 134), rounded down", -1, () -> x.deviationAt(0, 134));
        Check.due("deviationAt(0, 315)", 20, () -> x.deviationAt(0, 315));
        Check.due("deviationAt(0, 359), heading 0 comes next", 0, () -> x.deviationAt(0, 359));
        Check.due("deviationAt(0, 340)", 8, () -> x.deviationAt(0, 340));
        Check.throwsDue("deviationAt(0, 360)", ARGUMENT, () -> x.deviationAt(0, 360));
        Check.throwsDue("deviationAt(0, -1)", ARGUMENT, () -> x.deviationAt(0, -1));
        Check.throwsDue("deviationAt(2, 360)", INDEX, () -> x.deviationAt(2, 360));
        Check.throwsDue("deviationAt(-1, 0)", INDEX, () -> x.deviationAt(-1, 0));
    }

    private static void trueCourse() {
        NeedleBakery x = withNeedles(40);
        table(x, 0, -7, 9, 0, 0, 0, 0, 0, 20);
        Check.due("trueCourse(0, 0)", 353, () -> x.trueCourse(0, 0));
        Check.due("trueCourse(0, 45)", 54, () -> x.trueCourse(0, 45));
        Check.due("trueCourse(0, 341)", 345, () -> x.trueCourse(0, 341));
        x.setDeviation(0, 0, 20);
        Check.due("trueCourse(0, 359)", 19, () -> x.trueCourse(0, 359));
        Check.due("trueCourse(0, 340)", 0, () -> x.trueCourse(0, 340));
        Check.throwsDue("trueCourse(0, 360)", ARGUMENT, () -> x.trueCourse(0, 360));
        Check.throwsDue("trueCourse(0, -1)", ARGUMENT, () -> x.trueCourse(0, -1));
        Check.throwsDue("trueCourse(1, 360)", INDEX, () -> x.trueCourse(1, 360));
        Check.throwsDue("trueCourse(-1, 0)", INDEX, () -> x.trueCourse(-1, 0));
    }

    private static void courseFor() {
        NeedleBakery x = withNeedles(40, 50);
        table(x, 0, 20, 20, 20, 20, 20, 20, 20, 20);
        Check.due("courseFor(0, 20)", 0, () -> x.courseFor(0, 20));
        Check.due("courseFor(0, 19)", 359, () -> x.courseFor(0, 19));
        Check.due("courseForNearby(0, 20)", 0, () -> x.courseForNearby(0, 20));
        Check.due("courseForNearby(0, 19)", 359, () -> x.courseForNearby(0, 19));
        table(x, 0, -20, -20, -20, -20, -20, -20, -20, -20);
        Check.due("courseFor(0, 340)", 0, () -> x.courseFor(0, 340));
        Check.due("courseForNearby(0, 340)", 0, () -> x.courseForNearby(0, 340));
        Check.due("courseForNearby(0, 339)", 359, () -> x.courseForNearby(0, 339));
        table(x, 1, 20, -20, 0, 0, 0, 0, 0, 0);
        // From heading 0 on the true courses stay near 20, so several courses share one.
        Check.due("courseFor(1, 22), the lowest", 18, () -> x.courseFor(1, 22));
        Check.due("courseForNearby(1, 22), the lowest", 18, () -> x.courseForNearby(1, 22));
        Check.throwsDue("courseFor(1, 10)", NO_ELEMENT, () -> x.courseFor(1, 10));
        Check.throwsDue("courseForNearby(1, 10)", NO_ELEMENT, () -> x.courseForNearby(1, 10));
        Check.throwsDue("courseFor(0, 360)", ARGUMENT, () -> x.courseFor(0, 360));
        Check.throwsDue("courseFor(0, -1)", ARGUMENT, () -> x.courseFor(0, -1));
        Check.throwsDue("courseFor(2, 360)", INDEX, () -> x.courseFor(2, 360));
        Check.throwsDue("courseForNearby(0, 360)", ARGUMENT, () -> x.courseForNearby(0, 360));
        Check.throwsDue("courseForNearby(0, -1)", ARGUMENT, () -> x.courseForNearby(0, -1));
        Check.throwsDue("courseForNearby(2, 360)", INDEX, () -> x.courseForNearby(2, 360));
    }

    private static void missedCourses() {
        NeedleBakery x = withNeedles(40, 50);
        Check.due("missedCourses of no deviations", 0, () -> x.missedCourses(0));
        table(x, 0, 7, 7, 7, 7, 7, 7, 7, 7);
        Check.due("missedCourses of equal deviations", 0, () -> x.missedCourses(0));
        table(x, 1, 20, -20, 20, -20, 20, -20, 20, -20);
        Check.due("missedCourses(1)", 160, () -> x.missedCourses(1));
        Check.due("missedCourses(0) after it", 0, () -> x.missedCourses(0));
        Check.throwsDue("missedCourses(2)", INDEX, () -> x.missedCourses(2));
        Check.throwsDue("missedCourses(-1)", INDEX, () -> x.missedCourses(-1));
    }

    private static void errorOf() {
        NeedleBakery x = withNeedles(40);
        Check.due("errorOf(0) at first", 0, () -> x.errorOf(0));
        table(x, 0, 1, -2, 3, -4, 5, -6, 7, -8);
        Check.due("errorOf(0)", 204, () -> x.errorOf(0));
        Check.throwsDue("errorOf(1)", INDEX, () -> x.errorOf(1));
        Check.throwsDue("errorOf(-1)", INDEX, () -> x.errorOf(-1));
    }

    private static void bestShift() {
        NeedleBakery x = withNeedles(40);
        int[][] sumAndShift = {{0, 0}, {3, 0}, {4, 0}, {5, -1}, {8, -1}, {12, -1}, {13, -2}, {20, -2}, {21, -3}};
        for (int[] row : sumAndShift) {
            for (int sign = -1; sign <= 1; sign += 2) {
                int first = Math.min(row[0], 10);
                x.setDeviation(0, 2, sign * first);
                x.setDeviation(0, 5, sign * (row[0] - first));
                Check.due("bestShift at the sum " + sign * row[0], sign * row[1], () -> x.bestShift(0));
                Check.due("bestShiftBySum at the sum " + sign * row[0], sign * row[1], () -> x.bestShiftBySum(0));
            }
        }
        table(x, 0, 20, 20, 20, 20, 20, 20, 20, 20);
        Check.due("bestShift of all 20", -20, () -> x.bestShift(0));
        Check.due("bestShiftBySum of all 20", -20, () -> x.bestShiftBySum(0));
        table(x, 0, -20, -20, -20, -20, -20, -20, -20, -20);
        Check.due("bestShift of all -20", 20, () -> x.bestShift(0));
        Check.due("bestShiftBySum of all -20", 20, () -> x.bestShiftBySum(0));
        table(x, 0, -20, 20, 20, 20, 20, 20, 20, 20);
        Check.due("bestShift out of the table", -15, () -> x.bestShift(0));
        Check.due("bestShiftBySum out of the table", -15, () -> x.bestShiftBySum(0));
        Check.throwsDue("bestShift(1)", INDEX, () -> x.bestShift(1));
        Check.throwsDue("bestShift(-1)", INDEX, () -> x.bestShift(-1));
        Check.throwsDue("bestShiftBySum(1)", INDEX, () -> x.bestShiftBySum(1));
        Check.throwsDue("bestShiftBySum(-1)", INDEX, () -> x.bestShiftBySum(-1));
    }

    private static void needleAtRank() {
        NeedleBakery x = withNeedles(40, 50, 50, 60, 10);
        x.setDeviation(0, 0, 1);
        x.setDeviation(1, 0, 2);
        x.setDeviation(2, 0, -2);
        x.setDeviation(3, 4, 2);
        x.setDeviation(4, 0, 15);
        x.discard(0);
        int[] due = {0, 3, 1, 2, 4};
        for (int rank = 0; rank < due.length; rank++) {
            int asked = rank;
            Check.due("needleAtRank(" + rank + ")", due[rank], () -> x.needleAtRank(asked));
        }
        NeedleBakery y = withNeedles(40, 41, 42);
        y.setDeviation(2, 0, 1);
        Check.due("equal errors, strengths one apart", 1, () -> y.needleAtRank(0));
        Check.due("the weaker of them", 0, () -> y.needleAtRank(1));
        Check.due("errors one apart", 2, () -> y.needleAtRank(2));
        Check.throwsDue("needleAtRank(5)", NO_ELEMENT, () -> x.needleAtRank(5));
        Check.throwsDue("needleAtRank(-1)", NO_ELEMENT, () -> x.needleAtRank(-1));
    }

    private static void meanError() {
        NeedleBakery x = withNeedles(40, 50, 60, 70);
        x.setDeviation(0, 0, 1);
        x.setDeviation(1, 0, 3);
        x.setDeviation(2, 0, 11);
        x.setDeviation(3, 0, 5);
        Check.due("meanError", 35.0 / 3.0, () -> x.meanError());
        x.discard(3);
        Check.due("meanError without a discarded one", 5.0, () -> x.meanError());
        x.setTolerance(0);
        Check.throwsDue("meanError without good ones", ARITHMETIC, () -> x.meanError());
        Check.throwsDue("meanError without needles", ARITHMETIC, () -> new NeedleBakery().meanError());
    }

    private static void goodCount() {
        NeedleBakery x = withNeedles(40, 50, 60);
        Check.due("goodCount", 3, () -> x.goodCount());
        x.setDeviation(0, 0, 11);
        Check.due("goodCount without a reject", 2, () -> x.goodCount());
        x.discard(1);
        Check.due("goodCount without a discarded one", 1, () -> x.goodCount());
        x.discard(0);
        Check.due("goodCount with one that is both", 1, () -> x.goodCount());
    }

    private static void leastDifference() {
        int[][] strengthsAndDue = {{0}, {7, 0}, {7, 99, 92}, {10, 35, 12, 30, 50, 7}, {1, 50, 99, 49},
            {10, 20, 30, 10}, {1, 99, 50, 51, 49, 20, 80, 21, 67}};
        for (int[] row : strengthsAndDue) {
            NeedleBakery x = new NeedleBakery();
            for (int i = 0; i < row.length - 1; i++) {
                x.addNeedle(row[i]);
            }
            int due = row[row.length - 1];
            Check.due("leastDifference of " + (row.length - 1), due, () -> x.leastDifference());
            Check.due("leastDifferenceByOrder of " + (row.length - 1), due, () -> x.leastDifferenceByOrder());
        }
        NeedleBakery x = withNeedles(10, 35, 12, 30);
        x.setDeviation(3, 0, 11);
        Check.due("leastDifference without a reject", 2, () -> x.leastDifference());
        Check.due("leastDifferenceByOrder without a reject", 2, () -> x.leastDifferenceByOrder());
        x.discard(0);
        Check.due("leastDifference without a discarded one", 23, () -> x.leastDifference());
        Check.due("leastDifferenceByOrder without a discarded one", 23, () -> x.leastDifferenceByOrder());
        x.discard(1);
        Check.due("leastDifference of one good needle", 0, () -> x.leastDifference());
        Check.due("leastDifferenceByOrder of one good needle", 0, () -> x.leastDifferenceByOrder());
    }

    private static void partnerOf() {
        NeedleBakery x = withNeedles(10, 35, 12, 30, 50);
        Check.due("partnerOf(0)", 2, () -> x.partnerOf(0));
        Check.due("partnerOf(2)", 0, () -> x.partnerOf(2));
        Check.due("partnerOf(3)", 1, () -> x.partnerOf(3));
        Check.throwsDue("partnerOf the one that is over", NO_ELEMENT, () -> x.partnerOf(4));
        x.discard(2);
        Check.due("partnerOf(0) then", 3, () -> x.partnerOf(0));
        Check.throwsDue("partnerOf a discarded one", NO_ELEMENT, () -> x.partnerOf(2));
        Check.throwsDue("partnerOf(5)", INDEX, () -> x.partnerOf(5));
        Check.throwsDue("partnerOf(-1)", INDEX, () -> x.partnerOf(-1));
        x.setDeviation(0, 0, 11);
        Check.throwsDue("partnerOf a reject", NO_ELEMENT, () -> x.partnerOf(0));
        NeedleBakery y = withNeedles(30, 20, 10);
        Check.due("partnerOf(1), the lowest of two", 0, () -> y.partnerOf(1));
        Check.due("partnerOf(0) of three", 1, () -> y.partnerOf(0));
        Check.due("partnerOf(2) of three", 1, () -> y.partnerOf(2));
        Check.throwsDue("partnerOf the only one", NO_ELEMENT, () -> withNeedles(5).partnerOf(0));
    }

    private static void addBatch() {
        NeedleBakery x = new NeedleBakery();
        Check.throwsDue("addBatch(0, 1, 1)", ARGUMENT, () -> x.addBatch(0, 1, 1));
        Check.throwsDue("addBatch(61, 1, 1)", ARGUMENT, () -> x.addBatch(61, 1, 1));
        Check.throwsDue("addBatch(1, 0, 1)", ARGUMENT, () -> x.addBatch(1, 0, 1));
        Check.throwsDue("addBatch(1, 1000, 1)", ARGUMENT, () -> x.addBatch(1, 1000, 1));
        Check.throwsDue("addBatch(1, 1, 0)", ARGUMENT, () -> x.addBatch(1, 1, 0));
        Check.throwsDue("addBatch(1, 1, 10)", ARGUMENT, () -> x.addBatch(1, 1, 10));
        Check.due("addBatch(1, 1, 1)", 0, () -> x.addBatch(1, 1, 1));
        Check.due("addBatch(60, 999, 9)", 1, () -> x.addBatch(60, 999, 9));
        for (int batch = 2; batch < 7; batch++) {
            int due = batch;
            Check.due("addBatch to the seventh", due, () -> x.addBatch(5, 5, 5));
        }
        Check.throwsDue("an eighth batch", STATE, () -> x.addBatch(5, 5, 5));
        Check.throwsDue("an eighth batch out of range", ARGUMENT, () -> x.addBatch(0, 5, 5));
        x.dropBatch(6);
        Check.due("the id after the dropped 6", 7, () -> x.addBatch(5, 5, 5));
    }

    private static void dropBatch() {
        NeedleBakery x = new NeedleBakery();
        x.addBatch(10, 20, 3);
        x.addBatch(11, 21, 4);
        x.addBatch(12, 22, 5);
        Check.due("dropBatch(1)", 2, () -> x.dropBatch(1));
        Check.throwsDue("dropBatch(1) again", NO_ELEMENT, () -> x.dropBatch(1));
        Check.throwsDue("dropBatch(3)", NO_ELEMENT, () -> x.dropBatch(3));
        Check.throwsDue("dropBatch(-1)", NO_ELEMENT, () -> x.dropBatch(-1));
        Check.due("the first batch left", 0, () -> x.batchAt(0));
        Check.due("the second batch left", 2, () -> x.batchAt(1));
        Check.due("dropping bakes nothing", 0, () -> x.clock() + x.bakedCount());
        Check.due("dropBatch(0)", 1, () -> x.dropBatch(0));
        x.rest(20);
        Check.due("the last one keeps its numbers", 50, () -> x.bake(2));
    }

    private static void bake() {
        NeedleBakery x = new NeedleBakery();
        x.addBatch(30, 30, 2);
        x.addBatch(20, 20, 5);
        x.addBatch(10, 55, 3);
        Check.due("bake(0), just in time", 0, () -> x.bake(0));
        Check.due("the clock after it", 30, () -> x.clock());
        Check.throwsDue("bake(0) again", NO_ELEMENT, () -> x.bake(0));
        Check.throwsDue("bake(3)", NO_ELEMENT, () -> x.bake(3));
        Check.throwsDue("bake(-1)", NO_ELEMENT, () -> x.bake(-1));
        Check.due("bake(1)", 150, () -> x.bake(1));
        Check.due("bake(2)", 15, () -> x.bake(2));
        Check.due("batchCount then", 0, () -> x.batchCount());
    }

    private static void rest() {
        NeedleBakery x = new NeedleBakery();
        Check.due("rest(1)", 1, () -> x.rest(1));
        Check.due("rest(60)", 61, () -> x.rest(60));
        Check.throwsDue("rest(0)", ARGUMENT, () -> x.rest(0));
        Check.throwsDue("rest(61)", ARGUMENT, () -> x.rest(61));
        Check.due("clock", 61, () -> x.clock());
    }

    private static void batchQueries() {
        NeedleBakery x = new NeedleBakery();
        Check.throwsDue("batchAt(0) of none", INDEX, () -> x.batchAt(0));
        x.addBatch(10, 20, 3);
        x.addBatch(11, 21, 4);
        x.addBatch(12, 22, 5);
        x.bake(0);
        Check.due("batchCount", 2, () -> x.batchCount());
        Check.due("batchAt(0)", 1, () -> x.batchAt(0));
        Check.due("batchAt(1)", 2, () -> x.batchAt(1));
        Check.throwsDue("batchAt(2)", INDEX, () -> x.batchAt(2));
        Check.throwsDue("batchAt(-1)", INDEX, () -> x.batchAt(-1));
    }

    private static void latenessNow() {
        NeedleBakery x = new NeedleBakery();
        x.addBatch(30, 29, 2);
        x.addBatch(10, 10, 9);
        Check.due("latenessNow(0)", 2, () -> x.latenessNow(0));
        Check.due("latenessNow(1), just in time", 0, () -> x.latenessNow(1));
        x.rest(5);
        Check.due("latenessNow(1) later", 45, () -> x.latenessNow(1));
        Check.due("it bakes nothing", 2, () -> x.batchCount());
        Check.throwsDue("latenessNow(2)", NO_ELEMENT, () -> x.latenessNow(2));
        Check.throwsDue("latenessNow(-1)", NO_ELEMENT, () -> x.latenessNow(-1));
        x.bake(0);
        Check.throwsDue("latenessNow of a baked one", NO_ELEMENT, () -> x.latenessNow(0));
    }

    private static void leastLateness() {
        NeedleBakery x = new NeedleBakery();
        Check.due("leastLateness of none", 0, () -> x.leastLateness());
        Check.due("leastLatenessByOrders of none", 0, () -> x.leastLatenessByOrders());
        x.addBatch(30, 40, 2);
        x.addBatch(20, 20, 5);
        x.addBatch(10, 60, 1);
        Check.due("leastLateness", 20, () -> x.leastLateness());
        Check.due("leastLatenessByOrders", 20, () -> x.leastLatenessByOrders());
        x.rest(7);
        Check.due("leastLateness later", 35 + 34 + 7, () -> x.leastLateness());
        Check.due("leastLatenessByOrders later", 35 + 34 + 7, () -> x.leastLatenessByOrders());
        x.bake(1);
        Check.due("leastLateness of two", 34 + 7, () -> x.leastLateness());
        Check.due("leastLatenessByOrders of two", 34 + 7, () -> x.leastLatenessByOrders());
        NeedleBakery y = new NeedleBakery();
        for (int batch = 0; batch < 7; batch++) {
            y.addBatch(60, 1, 9);
        }
        Check.due("leastLateness of seven", 9 * (60 * 28 - 7), () -> y.leastLateness());
        Check.due("leastLatenessByOrders of seven", 9 * (60 * 28 - 7), () -> y.leastLatenessByOrders());
        Check.due("they bake nothing", 7, () -> y.batchCount() + y.clock() + y.bakedCount());
    }

    private static void bestFirst() {
        NeedleBakery x = new NeedleBakery();
        Check.throwsDue("bestFirst of none", NO_ELEMENT, () -> x.bestFirst());
        x.addBatch(30, 40, 2);
        x.addBatch(20, 20, 5);
        x.addBatch(10, 60, 1);
        Check.due("bestFirst", 1, () -> x.bestFirst());
        x.bake(1);
        Check.due("bestFirst then", 0, () -> x.bestFirst());
        NeedleBakery y = new NeedleBakery();
        y.addBatch(10, 500, 1);
        y.addBatch(10, 500, 1);
        Check.due("bestFirst of equals, the lowest id", 0, () -> y.bestFirst());
        y.dropBatch(0);
        Check.due("bestFirst of one", 1, () -> y.bestFirst());
    }

    private static void latenessByIds() {
        NeedleBakery x = new NeedleBakery();
        Check.due("latenessByIds of none", 0, () -> x.latenessByIds());
        x.addBatch(30, 40, 2);
        x.addBatch(20, 20, 5);
        x.addBatch(10, 50, 1);
        Check.due("latenessByIds", 160, () -> x.latenessByIds());
        x.rest(20);
        Check.due("latenessByIds later", 20 + 250 + 30, () -> x.latenessByIds());
    }

    private static void bakedAccounts() {
        NeedleBakery x = new NeedleBakery();
        x.addBatch(30, 20, 2);
        x.addBatch(20, 20, 5);
        x.addBatch(10, 20, 9);
        x.bake(0);
        Check.due("bakedCount", 1, () -> x.bakedCount());
        Check.due("latenessTotal", 20L, () -> x.latenessTotal());
        x.dropBatch(2);
        x.bake(1);
        Check.due("bakedCount then", 2, () -> x.bakedCount());
        Check.due("latenessTotal then", 170L, () -> x.latenessTotal());
    }

    private static void bakingShare() {
        NeedleBakery x = new NeedleBakery();
        Check.throwsDue("bakingShare at 0", ARITHMETIC, () -> x.bakingShare());
        x.addBatch(30, 40, 2);
        Check.throwsDue("bakingShare before baking", ARITHMETIC, () -> x.bakingShare());
        x.rest(5);
        Check.due("bakingShare of a rest", 0.0f, () -> x.bakingShare());
        x.bake(0);
        Check.due("bakingShare", 30.0f / 35.0f, () -> x.bakingShare());
    }

    private static void writeLabel() {
        NeedleBakery x = withNeedles(1, 99, 40);
        table(x, 2, 0, 5, -3, 0, 0, 0, 12, 0);
        Check.due("the document's label", "2:40 0 5 -3 0 0 0 12 0 ?", () -> labelOf(x, 2));
        Check.due("its length", 24, () -> x.writeLabel(2));
        Check.throwsDue("labelAt(24)", INDEX, () -> x.labelAt(24));
        Check.throwsDue("labelAt(-1)", INDEX, () -> x.labelAt(-1));
        x.discard(2);
        Check.due("labelAt before it is written anew", '?', () -> x.labelAt(23));
        Check.due("a discarded reject", "2:40 0 5 -3 0 0 0 12 0 x", () -> labelOf(x, 2));
        Check.due("a good needle", "0:1 0 0 0 0 0 0 0 0", () -> labelOf(x, 0));
        Check.throwsDue("labelAt behind the shorter label", INDEX, () -> x.labelAt(19));
        x.discard(1);
        Check.due("a discarded one", "1:99 0 0 0 0 0 0 0 0 x", () -> labelOf(x, 1));
        Check.throwsDue("writeLabel(3)", INDEX, () -> x.writeLabel(3));
        Check.throwsDue("writeLabel(-1)", INDEX, () -> x.writeLabel(-1));
        Check.due("a refused label leaves the one before", '9', () -> x.labelAt(3));
    }

    private static void type() {
        NeedleBakery x = new NeedleBakery();
        Check.throwsDue("type(31)", ARGUMENT, () -> x.type((char) 31));
        Check.throwsDue("type(127)", ARGUMENT, () -> x.type((char) 127));
        Check.throwsDue("type(65535)", ARGUMENT, () -> x.type((char) 65535));
        Check.throwsDue("type(0)", ARGUMENT, () -> x.type((char) 0));
        Check.due("type(' ')", 1, () -> x.type(' '));
        Check.due("type('~')", 2, () -> x.type('~'));
        for (int length = 3; length <= 60; length++) {
            int due = length;
            Check.due("type to the sixtieth", due, () -> x.type('a'));
        }
        Check.throwsDue("a sixty-first character", STATE, () -> x.type('a'));
        Check.throwsDue("a sixty-first character, wrong", ARGUMENT, () -> x.type((char) 31));
    }

    private static void execute() {
        NeedleBakery x = new NeedleBakery();
        Check.due("two commands", 2, () -> run(x, "needle 9;set 0 7 -20"));
        Check.due("what they did", "0:9 0 0 0 0 0 0 0 -20 ?", () -> labelOf(x, 0));
        Check.due("the buffer is empty after it", 1, () -> x.type('x'));
        Check.throwsDue("malformed", ARGUMENT, () -> x.execute());
        Check.due("the buffer is empty after a malformed one", 1, () -> x.type('d'));
        Check.throwsDue("a failing command", STATE, () -> run(x, "iscard 0;needle 5;drop 0"));
        Check.due("the buffer is empty after a failing one", 1, () -> x.type('r'));
        Check.due("all or none", "0:9 0 0 0 0 0 0 0 -20 ?", () -> labelOf(x, 0));
        Check.due("no needle of it stays", 1, () -> x.needleCount());
        Check.due("leading zeros", 1, () -> run(x, "est 007"));
        Check.due("the clock then", 7, () -> x.clock());
        Check.throwsDue("malformed is told before failing", ARGUMENT, () -> run(x, "drop 9;drop"));
        Check.throwsDue("no failure is stored of it", STATE, () -> run(x, "needle 1;drop 99"));
        Check.due("the index of the later failure", 1, () -> x.failedCommand());
        Check.due("eight commands of 60 characters", 8, () -> run(x, "rest 1;rest 1;rest 1;rest 1;rest 10;rest 10;rest 10;rest 010"));
        Check.due("the clock after them", 51, () -> x.clock());
    }

    private static void executeEachCommand() {
        NeedleBakery x = new NeedleBakery();
        run(x, "needle 99;needle 40;set 0 0 15;set 0 1 -0;shift 0 -8;limit 6");
        Check.due("needle, set, shift, limit", "0:99 7 -8 -8 -8 -8 -8 -8 -8 ?", () -> labelOf(x, 0));
        Check.due("limit", 6, () -> x.tolerance());
        run(x, "correct 0;discard 1;shift 0 2");
        Check.due("correct and shift", "0:99 15 0 0 0 0 0 0 0 ?", () -> labelOf(x, 0));
        Check.due("discard", true, () -> x.isDiscarded(1));
        run(x, "batch 30/40 2;batch 20/20 5;batch 60/999 9;rest 60");
        Check.due("batch, by minutes, due and weight", 2 * 50 + 5 * 90, () -> x.latenessByIds());
        run(x, "drop 0;bake 1");
        Check.due("drop and bake", 2, () -> x.batchAt(0));
        Check.due("rest and bake", 80, () -> x.clock());
        Check.due("bake", 300L, () -> x.latenessTotal());
        String[] failing = {"needle 0", "needle 100", "set 9 0 0", "set 0 8 0", "set 0 0 21", "set 0 0 -21",
            "shift 9 0", "shift 0 41", "shift 0 -41", "shift 0 20", "shift 1 0", "set 1 0 0", "correct 1",
            "correct 2", "discard 1", "discard 2", "limit 21", "batch 0/1 1", "batch 61/1 1", "batch 1/0 1",
            "batch 1/1 0", "drop 0", "bake 0", "rest 0", "rest 61"};
        for (String program : failing) {
            Check.throwsDue(program, STATE, () -> run(x, program));
        }
    }

    private static void errorPosition() {
        NeedleBakery x = new NeedleBakery();
        Check.throwsDue("errorPosition at first", NO_ELEMENT, () -> x.errorPosition());
        Object[][] programAndDue = {{"", 0}, {"x", 0}, {"n", 1}, {"sx", 1}, {"se", 2}, {"sh ", 2}, {"bax", 2},
            {"ba", 2}, {"bat h", 3}, {"dix", 2}, {"dr0", 2}, {"needle", 6}, {"needle ", 7}, {"needle  5", 7},
            {"needle 1234", 10}, {"needle 12x", 9}, {"needle -1", 7}, {"needle 5;", 9}, {"needle 5; rest 1", 9},
            {"needle 5 ;", 8}, {";", 0}, {"set 0 0", 7}, {"set 00 0 0", 5}, {"set 0 0 -", 9}, {"set 0 0 --1", 9},
            {"set 0 0 +1", 8}, {"shift 0 -1234", 12}, {"correct 12", 9}, {"correct x", 8}, {"discard -", 8},
            {"limit 1/", 7}, {"batch 1 1 1", 7}, {"batch 1/1/1", 9}, {"batch 1/1 12", 11}, {"batch 1/1", 9},
            {"batch 1111/1 1", 9}, {"drop 1;;", 7}, {"bake 1;bakx 1", 10}, {"Rest 1", 0}, {"rest 1rest 1", 6},
            {"shift 1-1", 7}, {"rest /", 5}, {"rest :", 5}};
        for (Object[] row : programAndDue) {
            Check.throwsDue("\"" + row[0] + "\"", ARGUMENT, () -> run(x, (String) row[0]));
            Check.due("errorPosition of \"" + row[0] + "\"", row[1], () -> x.errorPosition());
        }
        run(x, "rest 1");
        Check.due("a well-formed program leaves it", 5, () -> x.errorPosition());
        Check.throwsDue("no command failed", NO_ELEMENT, () -> x.failedCommand());
    }

    private static void failedCommand() {
        NeedleBakery x = new NeedleBakery();
        Check.throwsDue("failedCommand at first", NO_ELEMENT, () -> x.failedCommand());
        Check.throwsDue("the first fails", STATE, () -> run(x, "needle 0;needle 5"));
        Check.due("failedCommand", 0, () -> x.failedCommand());
        Check.throwsDue("the third fails", STATE, () -> run(x, "needle 5;needle 6;shift 2 0"));
        Check.due("failedCommand then", 2, () -> x.failedCommand());
        run(x, "needle 5");
        Check.throwsDue("malformed", ARGUMENT, () -> x.execute());
        Check.due("failedCommand is kept", 2, () -> x.failedCommand());
        Check.throwsDue("a direct call that throws", ARGUMENT, () -> x.addNeedle(0));
        Check.due("failedCommand is of programs only", 2, () -> x.failedCommand());
    }

    private static void undo() {
        NeedleBakery x = new NeedleBakery();
        for (int minute = 1; minute <= 10; minute++) {
            x.rest(1);
        }
        for (int left = 7; left >= 0; left--) {
            int due = left;
            Check.due("undo to " + left, due, () -> x.undo());
        }
        Check.throwsDue("a ninth undo", STATE, () -> x.undo());
        Check.due("two modifications stay", 2, () -> x.clock());
        x.rest(5);
        x.rest(6);
        x.undo();
        x.rest(30);
        Check.due("the clock after an undo and a rest", 37, () -> x.clock());
        Check.due("undo goes back beyond the undone one", 1, () -> x.undo());
        Check.due("the clock after it", 7, () -> x.clock());
    }

    private static NeedleBakery withTwoOfEach() {
        NeedleBakery x = withNeedles(40, 50);
        table(x, 0, 1, 2, 3, 4, 5, 6, 7, 8);
        x.addBatch(10, 5, 2);
        x.addBatch(20, 5, 3);
        return x;
    }

    private static void undoEachModification() {
        String due = picture(withTwoOfEach());
        Sentence.Call[] modifications = {y -> y.addNeedle(7), y -> y.setDeviation(0, 0, 9), y -> y.shift(0, 3),
            y -> y.correct(0), y -> y.discard(1), y -> y.setTolerance(3), y -> y.addBatch(1, 2, 3),
            y -> y.dropBatch(0), y -> y.bake(1), y -> y.rest(9),
            y -> run(y, "needle 3;set 2 1 4;bake 0;limit 1;batch 1/1 1")};
        for (int i = 0; i < modifications.length; i++) {
            NeedleBakery y = withTwoOfEach();
            modifications[i].on(y);
            Check.same("modification " + i + " changes something", false, due.equals(picture(y)));
            y.undo();
            Check.same("undo of modification " + i, due, picture(y));
        }
        NeedleBakery x = withTwoOfEach();
        for (int i = 0; i < modifications.length; i++) {
            modifications[i].on(x);
            x.undo();
        }
        Check.same("undo of all modifications, one after the other", due, picture(x));
        Check.due("the id after undone batches", 2, () -> x.addBatch(1, 1, 1));
        Check.due("the number after undone needles", 2, () -> x.addNeedle(1));
        Check.due("its deviations", " 0 0 0 0 0 0 0 0", () -> tableOf(x, 2));
        x.setDeviation(0, 0, 1);
        Check.due("a modification that changes no value counts too", 7, () -> x.undo());
    }

    private static void saveAndRestore() {
        NeedleBakery x = withNeedles(40);
        x.addBatch(10, 5, 2);
        x.rest(3);
        Check.due("save", 3, () -> x.save());
        String due = picture(x);
        Check.due("save leaves what can be undone", 2, () -> x.undo());
        x.rest(3);
        x.bake(0);
        x.addBatch(1, 1, 1);
        x.addNeedle(9);
        x.setTolerance(0);
        Check.due("restore", 3, () -> x.restore());
        Check.same("the state after restore", due, picture(x));
        Check.throwsDue("undo after restore", STATE, () -> x.undo());
        Check.due("the id after restore", 1, () -> x.addBatch(1, 1, 1));
        Check.due("undo of what came after restore", 0, () -> x.undo());
        x.setDeviation(0, 0, 4);
        x.rest(60);
        Check.due("restore again", 3, () -> x.restore());
        Check.same("the state after restoring again", due, picture(x));
        x.rest(2);
        Check.due("save in place of the earlier one", 5, () -> x.save());
        x.rest(2);
        Check.due("restore of the later one", 5, () -> x.restore());
        NeedleBakery y = new NeedleBakery();
        y.rest(4);
        y.save();
        y.undo();
        Check.due("undo leaves the snapshot", 4, () -> y.restore());
        NeedleBakery z = new NeedleBakery();
        z.save();
        Check.due("restore is no modification", 0, () -> z.restore());
        Check.throwsDue("neither restore nor save can be undone", STATE, () -> z.undo());
    }

    private static void whatUndoAndRestoreLeave() {
        NeedleBakery x = withNeedles(40);
        x.save();
        Check.throwsDue("malformed", ARGUMENT, () -> run(x, "rest;"));
        Check.throwsDue("failing", STATE, () -> run(x, "rest 1;rest 0"));
        x.setDeviation(0, 0, 5);
        x.writeLabel(0);
        typeAll(x, "rest 1");
        x.undo();
        Check.due("undo leaves the error position", 4, () -> x.errorPosition());
        Check.due("undo leaves the failed command", 1, () -> x.failedCommand());
        Check.due("undo leaves the label", '5', () -> x.labelAt(5));
        Check.due("undo leaves the buffer", 7, () -> x.type('2'));
        x.restore();
        Check.due("restore leaves the error position", 4, () -> x.errorPosition());
        Check.due("restore leaves the failed command", 1, () -> x.failedCommand());
        Check.due("restore leaves the label", '5', () -> x.labelAt(5));
        Check.due("restore leaves the buffer", 1, () -> x.execute());
        Check.due("the buffer's command", 12, () -> x.clock());
        x.undo();
        Check.throwsDue("undo brings no buffer back", ARGUMENT, () -> x.execute());
        Check.due("the error position of an empty buffer", 0, () -> x.errorPosition());
    }

    private static void refusalsChangeNothing() {
        NeedleBakery x = withNeedles(40, 50);
        table(x, 0, -20, 20, 20, 20, 20, 20, 20, 20);
        for (int batch = 0; batch < 7; batch++) {
            x.addBatch(5, 5, 5);
        }
        x.discard(1);
        String due = picture(x);
        Runnable[] refused = {() -> x.addNeedle(0), () -> x.setDeviation(0, 8, 1), () -> x.setDeviation(1, 0, 1),
            () -> x.shift(0, 1), () -> x.correct(0), () -> x.discard(1), () -> x.setTolerance(21),
            () -> x.addBatch(1, 1, 1), () -> x.dropBatch(7), () -> x.bake(7), () -> x.rest(0),
            () -> run(x, "rest 1;bake 0;limit 3;set 0 0 0;needle 5;rest 0"), () -> run(x, "rest 1;bake 0;"),
            () -> x.needleAtRank(2), () -> x.restore()};
        for (int i = 0; i < refused.length; i++) {
            boolean threw = false;
            try {
                refused[i].run();
            } catch (RuntimeException e) {
                threw = true;
            }
            Check.same("call " + i + " is refused", true, threw);
        }
        Check.same("the state after the refused calls", due, picture(x));
        Check.due("none of them can be undone", 7, () -> x.undo());
        Check.due("undo of the discard", false, () -> x.isDiscarded(1));
        for (int left = 6; left >= 0; left--) {
            int undone = left;
            Check.due("undo of a batch", undone, () -> x.undo());
        }
        Check.due("a failing program has pushed none out", 0, () -> x.batchCount());
    }

    private static void fullBakery() {
        NeedleBakery x = withNeedles(10, 20, 30, 40, 50, 60, 70, 80);
        for (int needle = 0; needle < 8; needle++) {
            table(x, needle, needle, 0, 0, 0, 0, 0, 0, -needle);
        }
        for (int batch = 0; batch < 7; batch++) {
            x.addBatch(10, 10 * batch + 10, 1);
        }
        Check.due("setTolerance of eight", 0, () -> x.setTolerance(7));
        Check.due("goodCount of eight", 8, () -> x.goodCount());
        Check.due("meanError of eight", 2.0 * 140.0 / 8.0, () -> x.meanError());
        Check.due("needleAtRank(7) of eight", 7, () -> x.needleAtRank(7));
        Check.throwsDue("needleAtRank(8) of eight", NO_ELEMENT, () -> x.needleAtRank(8));
        Check.due("leastDifference of eight", 40, () -> x.leastDifference());
        Check.due("leastDifferenceByOrder of eight", 40, () -> x.leastDifferenceByOrder());
        Check.due("partnerOf(7) of eight", 6, () -> x.partnerOf(7));
        Check.due("bestShift of the eighth", 0, () -> x.bestShift(7));
        Check.due("deviationAt of the eighth", 6, () -> x.deviationAt(7, 359));
        Check.throwsDue("courseFor of the eighth", NO_ELEMENT, () -> x.courseFor(7, 312));
        Check.throwsDue("courseForNearby of the eighth", NO_ELEMENT, () -> x.courseForNearby(7, 312));
        Check.due("missedCourses of the eighth", 14, () -> x.missedCourses(7));
        Check.due("the label of the eighth", "7:80 7 0 0 0 0 0 0 -7", () -> labelOf(x, 7));
        Check.throwsDue("strengthOf(8) of eight", INDEX, () -> x.strengthOf(8));
        Check.due("batchAt(6) of seven", 6, () -> x.batchAt(6));
        Check.throwsDue("batchAt(7) of seven", INDEX, () -> x.batchAt(7));
        Check.due("leastLateness of seven in time", 0, () -> x.leastLateness());
        Check.due("leastLatenessByOrders of seven in time", 0, () -> x.leastLatenessByOrders());
        Check.due("bestFirst of seven", 0, () -> x.bestFirst());
        Check.due("latenessByIds of seven", 0, () -> x.latenessByIds());
        Check.due("bake of the seventh", 0, () -> x.bake(6));
        Check.due("correct of the eighth", 0, () -> x.correct(7));
        Check.due("discard of the eighth", 1, () -> x.discard(7));
    }

    private static void stateBehindUndoneNeedles() {
        NeedleBakery x = withNeedles(10, 20, 30, 40, 50, 60, 70);
        x.addNeedle(80);
        x.setDeviation(7, 7, 5);
        x.save();
        x.undo();
        x.undo();
        x.addNeedle(99);
        Check.due("the table of a needle in place of an undone one", " 0 0 0 0 0 0 0 0", () -> tableOf(x, 7));
        x.setDeviation(7, 3, 6);
        x.discard(7);
        x.restore();
        Check.due("the restored needle", "7:80 0 0 0 0 0 0 0 5", () -> labelOf(x, 7));
    }
}
