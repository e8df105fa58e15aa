/** The boundary sentences on courses and shifts: promises 13 to 22, and what the Terms say of them. */
final class CourseBoundaries extends Scenes {
    private CourseBoundaries() {
    }

    static void test() {
        termsOfDivisions();
        termsOfCourses();
        termsOfInterpolation();
        termsOfShifts();
        tablesApart();
        noSuchCourse();
        returnedCourses();
        lowestCourse();
        nearbyCourses();
        neverMet();
        missedCourses();
        bestShift();
        needleAtRank();
        meanError();
    }

    private static void termsOfDivisions() {
        Sentence s = Sentence.ofTerms("All integer divisions are rounded down, also those of negative numbers.");
        NeedleBakery x = withTable(0, 1, 0, -1, 0, -20, -19, 0);
        s.due("0 / 45", 0, () -> x.deviationAt(0, 0));
        s.due("1 / 45", 0, () -> x.deviationAt(0, 1));
        s.due("44 / 45", 0, () -> x.deviationAt(0, 44));
        s.due("45 / 45", 1, () -> x.deviationAt(0, 45));
        s.due("-1 / 45", -1, () -> x.deviationAt(0, 91));
        s.due("-44 / 45", -1, () -> x.deviationAt(0, 134));
        s.due("-45 / 45", -1, () -> x.deviationAt(0, 135));
        s.due("-1 / 45 from the other side", -1, () -> x.deviationAt(0, 179));
        s.due("-899 / 45", -20, () -> x.deviationAt(0, 226));
        s.due("-856 / 45", -20, () -> x.deviationAt(0, 269));
        s.due("-855 / 45", -19, () -> x.deviationAt(0, 270));
    }

    private static void termsOfCourses() {
        Sentence range = Sentence.ofTerms("A course is a number of degrees from 0 to 359.");
        range.range(0, 359, ARGUMENT, Scenes::lived, (x, number) -> x.trueCourse(0, number));
        Sentence headings = Sentence.ofTerms(
                "The table of a needle has the deviations for the headings 0 to 7, which are the courses 0, 45, 90 and so on to 315.");
        NeedleBakery x = withTable(20, -20, 13, -11, 7, -5, 3, -2);
        int[] due = {20, -20, 13, -11, 7, -5, 3, -2};
        for (int heading = 0; heading < 8; heading++) {
            int h = heading;
            headings.due("deviationAt " + 45 * h, due[h], () -> x.deviationAt(0, 45 * h));
        }
        Sentence modulo = Sentence.ofTerms("The true course for a course is the course plus the deviation at it, modulo 360.");
        NeedleBakery up = withTable(20, 20, 20, 20, 20, 20, 20, 20);
        modulo.due("339 plus 20", 359, () -> up.trueCourse(0, 339));
        modulo.due("340 plus 20", 0, () -> up.trueCourse(0, 340));
        modulo.due("359 plus 20", 19, () -> up.trueCourse(0, 359));
        NeedleBakery down = withTable(-20, -20, -20, -20, -20, -20, -20, -20);
        modulo.due("0 minus 20", 340, () -> down.trueCourse(0, 0));
        modulo.due("19 minus 20", 359, () -> down.trueCourse(0, 19));
        modulo.due("20 minus 20", 0, () -> down.trueCourse(0, 20));
    }

    private static void termsOfInterpolation() {
        Sentence s = Sentence.ofTerms("if the course is r degrees behind heading h, it is the deviation for h multiplied by 45 - r, "
                + "plus the deviation for the next heading multiplied by r, divided by 45.");
        NeedleBakery x = withTable(0, 0, 20, -20);
        s.due("r is 0", 20, () -> x.deviationAt(0, 90));
        s.due("r is 1", 19, () -> x.deviationAt(0, 91));
        s.due("r is 22", 0, () -> x.deviationAt(0, 112));
        s.due("r is 23", -1, () -> x.deviationAt(0, 113));
        s.due("r is 44", -20, () -> x.deviationAt(0, 134));
        s.due("r is 0 again", -20, () -> x.deviationAt(0, 135));
        s.due("the heading before, r is 44", 19, () -> x.deviationAt(0, 89));
        Sentence wrap = Sentence.ofTerms("Heading 0 comes behind heading 7.");
        NeedleBakery y = withTable(9, 0, 0, 0, 0, 0, 0, -9);
        wrap.due("at 315", -9, () -> y.deviationAt(0, 315));
        wrap.due("at 320", -7, () -> y.deviationAt(0, 320));
        wrap.due("at 337", -1, () -> y.deviationAt(0, 337));
        wrap.due("at 359", 8, () -> y.deviationAt(0, 359));
        wrap.due("at 0", 9, () -> y.deviationAt(0, 0));
    }

    private static void termsOfShifts() {
        Sentence error = Sentence.ofTerms("The error of a table is the sum of the squares of its 8 deviations.");
        error.due("of zeros", 0, () -> withTable().errorOf(0));
        error.due("the greatest", 3200, () -> withTable(-20, 20, -20, 20, 20, 20, 20, -20).errorOf(0));
        error.due("the first alone", 400, () -> withTable(-20).errorOf(0));
        error.due("the last alone", 1, () -> withTable(0, 0, 0, 0, 0, 0, 0, -1).errorOf(0));
        Sentence best = Sentence.ofTerms("The best shift of a needle is the number from -20 to 20 by which its table would have to be "
                + "shifted for the smallest error, whether the deviations would be in their range or not; of two such "
                + "numbers, the one that is nearer to 0 is used.");
        bestIs(best, -20, 20, 20, 20, 20, 20, 20, 20, 20);
        bestIs(best, 20, -20, -20, -20, -20, -20, -20, -20, -20);
        bestIs(best, -15, -20, 20, 20, 20, 20, 20, 20, 20);
        bestIs(best, 15, -20, -20, -20, -20, -20, -20, -20, 20);
        bestIs(best, 0, 4);
        bestIs(best, -1, 5);
        bestIs(best, 0, -4);
        bestIs(best, 1, -5);
        bestIs(best, -1, 12);
        bestIs(best, -2, 13);
        bestIs(best, 1, -12);
        bestIs(best, 2, -13);
        bestIs(best, -19, 20, 20, 20, 20, 20, 20, 20, 16);
        bestIs(best, 19, -20, -20, -20, -20, -20, -20, -20, -16);
    }

    /** The table of one needle ends where that of the next one begins. */
    private static void tablesApart() {
        Sentence s = Sentence.ofTerms("A needle has a strength from 1 to 99 and a table with 8 deviations");
        NeedleBakery x = withNeedles(40, 50, 60);
        table(x, 0, 20, 20, 20, 20, 20, 20, 20, 20);
        table(x, 2, -20, -20, -20, -20, -20, -20, -20, -20);
        s.due("the error between two tables", 0, () -> x.errorOf(1));
        s.due("the best shift between two tables", 0, () -> x.bestShift(1));
        s.due("the best shift by sum between two tables", 0, () -> x.bestShiftBySum(1));
        s.due("the deviation at 359 between two tables", 0, () -> x.deviationAt(1, 359));
        s.due("no reject between two", false, () -> x.isReject(1));
        s.due("a shift down between two tables", 8, () -> x.shift(1, -1));
        s.due("a shift up between two tables", 8, () -> x.shift(1, 2));
        s.due("a correction between two tables", -1, () -> x.correct(1));
        s.due("the table before", " 20 20 20 20 20 20 20 20", () -> tableOf(x, 0));
        s.due("the table behind", " -20 -20 -20 -20 -20 -20 -20 -20", () -> tableOf(x, 2));
    }

    private static void bestIs(Sentence s, int due, int... degrees) {
        NeedleBakery x = withTable(degrees);
        s.due("bestShift of" + tableOf(x, 0), due, () -> x.bestShift(0));
        s.due("bestShiftBySum of" + tableOf(x, 0), due, () -> x.bestShiftBySum(0));
    }

    private static void noSuchCourse() {
        String course = "`course`: the course, 0 to 359";
        String wanted = "`wanted`: the true course, 0 to 359";
        String noCourse = "Throws `IllegalArgumentException` if there is no such course";
        String noTrueCourse = "Throws `IllegalArgumentException` if there is no such true course";
        noSuchCourse(13, course, noCourse, (x, number) -> x.deviationAt(0, number));
        noSuchCourse(14, course, noCourse, (x, number) -> x.trueCourse(0, number));
        noSuchCourse(15, wanted, noTrueCourse, (x, number) -> x.courseFor(0, number));
        noSuchCourse(16, wanted, noTrueCourse, (x, number) -> x.courseForNearby(0, number));
    }

    private static void noSuchCourse(int promise, String range, String refusal, Sentence.RangeCall call) {
        Sentence.of(promise, range).range(0, 359, ARGUMENT, () -> withNeedles(40), call);
        Sentence s = Sentence.of(promise, refusal);
        for (int number : new int[] {-1, 360, -360, 720, Integer.MIN_VALUE, Integer.MAX_VALUE}) {
            s.refuses("the course " + number, ARGUMENT, Scenes::lived, x -> call.on(x, number));
        }
    }

    private static void returnedCourses() {
        Sentence s = Sentence.of(14, "Returns the true course, 0 to 359.");
        for (int degrees = -20; degrees <= 20; degrees += 40) {
            NeedleBakery x = withTable(degrees, degrees, degrees, degrees, degrees, degrees, degrees, degrees);
            for (int course = 0; course < 360; course++) {
                int asked = course;
                s.due("trueCourse of " + asked, (asked + 360 + degrees) % 360, () -> x.trueCourse(0, asked));
            }
        }
    }

    private static void lowestCourse() {
        String words = "Returns the lowest course for which a needle has a true course";
        Sentence s = Sentence.of(15, words);
        NeedleBakery x = withTable(20, -20);
        // True courses behind heading 0 grow by 1 in 9 courses, so that nine courses share one.
        s.due("the first of nine", 9, () -> x.courseFor(0, 21));
        s.due("the first of the next nine", 18, () -> x.courseFor(0, 22));
        s.due("course 0 itself", 0, () -> x.courseFor(0, 20));
        NeedleBakery y = withTable(0, -20, 0, 0, 0, 0, 0, 20);
        s.due("0 of 0 and 1", 0, () -> y.courseFor(0, 0));
        s.due("the course before 0", 359, () -> y.courseFor(0, 359));
        NeedleBakery up = withTable(20, 20, 20, 20, 20, 20, 20, 20);
        s.due("0, the lowest course there is", 0, () -> up.courseFor(0, 20));
        s.due("359, the highest course there is", 359, () -> up.courseFor(0, 19));
        s.due("beyond the end of the courses", 340, () -> up.courseFor(0, 0));
    }

    private static void nearbyCourses() {
        Sentence s = Sentence.of(16, "Returns the same course as courseFor, by trying only the courses that are at most 20 degrees from the true course.");
        NeedleBakery up = withTable(20, 20, 20, 20, 20, 20, 20, 20);
        s.due("20 degrees below", 180, () -> up.courseForNearby(0, 200));
        s.due("20 degrees below, at 0", 0, () -> up.courseForNearby(0, 20));
        s.due("20 degrees below, around 0", 359, () -> up.courseForNearby(0, 19));
        s.due("20 degrees below 0", 340, () -> up.courseForNearby(0, 0));
        NeedleBakery down = withTable(-20, -20, -20, -20, -20, -20, -20, -20);
        s.due("20 degrees above", 220, () -> down.courseForNearby(0, 200));
        s.due("20 degrees above, at 0", 0, () -> down.courseForNearby(0, 340));
        s.due("20 degrees above, around 0", 19, () -> down.courseForNearby(0, 359));
        s.due("20 degrees above, at 359", 359, () -> down.courseForNearby(0, 339));
        int[][] tables = {{}, {20, -20}, {0, -20, 0, 0, 0, 0, 0, 20}, {20, -20, 20, -20, 20, -20, 20, -20},
            {-20, 20, -20, 20, -20, 20, -20, 20}, {1, 2, 3, 4, 5, 6, 7, 8}, {-9, 3, 0, 17, 20, -1, 5, -20}};
        for (int[] degrees : tables) {
            for (int wanted = 0; wanted < 360; wanted++) {
                int asked = wanted;
                NeedleBakery x = withTable(degrees);
                s.due("courseForNearby of " + asked, Check.answerOf(() -> x.courseFor(0, asked)), () -> x.courseForNearby(0, asked));
            }
        }
    }

    private static void neverMet() {
        String words = "Throws `NoSuchElementException` if the needle has it for no course";
        neverMet(Sentence.of(15, words), (x, wanted) -> x.courseFor(0, wanted));
        neverMet(Sentence.of(16, words), (x, wanted) -> x.courseForNearby(0, wanted));
    }

    private static void neverMet(Sentence s, Sentence.RangeCall call) {
        // Between heading 0 and heading 1 one degree is left out, which is the true course 45.
        Sentence.Setup setup = () -> withTable(0, 1);
        s.due("the one before it", 44, () -> call.on(setup.bakery(), 44));
        s.refuses("the true course 45", NO_ELEMENT, setup, x -> call.on(x, 45));
        s.due("the one behind it", 45, () -> call.on(setup.bakery(), 46));
        // Up to course 359 the deviation is rounded down to -1, so that 358 is followed by 0.
        Sentence.Setup around = () -> withTable(0, 0, 0, 0, 0, 0, 0, -1);
        s.refuses("the true course 359", NO_ELEMENT, around, x -> call.on(x, 359));
        s.due("the true course 0", 0, () -> call.on(around.bakery(), 0));
        s.due("the true course 358", 359, () -> call.on(around.bakery(), 358));
    }

    private static void missedCourses() {
        Sentence s = Sentence.of(17, "Returns the number of true courses that a needle has for no course.");
        Sentence returned = Sentence.of(17, "Returns the number of true courses.");
        s.due("none", 0, () -> withTable().missedCourses(0));
        returned.due("one", 1, () -> withTable(0, 1).missedCourses(0));
        s.due("one at 359", 1, () -> withTable(0, 0, 0, 0, 0, 0, 0, -1).missedCourses(0));
        s.due("40 on each of four rises", 160, () -> withTable(20, -20, 20, -20, 20, -20, 20, -20).missedCourses(0));
        s.due("around 0", 0, () -> withTable(20, 20, 20, 20, 20, 20, 20, 20).missedCourses(0));
        NeedleBakery x = withNeedles(40, 50);
        x.setDeviation(1, 1, 1);
        s.due("of a needle that misses none", 0, () -> x.missedCourses(0));
        s.due("after that, of one that misses one", 1, () -> x.missedCourses(1));
    }

    private static void bestShift() {
        Sentence trying = Sentence.of(19, "Returns the best shift of a needle, by trying all numbers.");
        Sentence sum = Sentence.of(20, "Returns the same number as bestShift, from the sum of the deviations.");
        for (int total = -160; total <= 160; total++) {
            NeedleBakery x = withNeedles(40);
            int left = total;
            for (int heading = 0; heading < 8; heading++) {
                int degrees = Math.max(-20, Math.min(20, left));
                x.setDeviation(0, heading, degrees);
                left -= degrees;
            }
            // Of the halves the one nearer to 0 is due, so that the mean without its sign is rounded at 3 / 8 up.
            int size = (Math.abs(total) + 3) / 8;
            int due = total > 0 ? -size : size;
            trying.due("the sum " + total, due, () -> x.bestShift(0));
            sum.due("the sum " + total, due, () -> x.bestShiftBySum(0));
        }
        String range = "Returns the best shift, -20 to 20.";
        Sentence ends = Sentence.of(19, range);
        Sentence endsBySum = Sentence.of(20, range);
        for (int degrees = -20; degrees <= 20; degrees += 40) {
            NeedleBakery x = withTable(degrees, degrees, degrees, degrees, degrees, degrees, degrees, degrees);
            ends.due("all " + degrees, -degrees, () -> x.bestShift(0));
            endsBySum.due("all " + degrees, -degrees, () -> x.bestShiftBySum(0));
        }
    }

    private static void needleAtRank() {
        Sentence order = Sentence.of(21, "of equal errors the greatest strength comes first, then the lowest number.");
        NeedleBakery x = withNeedles(40, 41, 41, 99, 1);
        x.setDeviation(3, 0, 1);
        x.setDeviation(4, 7, -1);
        int[] due = {1, 2, 0, 3, 4};
        for (int rank = 0; rank < 5; rank++) {
            int asked = rank;
            order.due("rank " + asked, due[asked], () -> x.needleAtRank(asked));
        }
        Sentence discarded = Sentence.of(21, "Discarded needles are included.");
        for (int needle = 0; needle < 5; needle++) {
            x.discard(needle);
        }
        discarded.due("the first of all discarded", 1, () -> x.needleAtRank(0));
        discarded.due("the last of all discarded", 4, () -> x.needleAtRank(4));
        Sentence from = Sentence.of(21, "`rank`: the rank, from 0");
        from.due("rank 0 of one", 0, () -> withNeedles(5).needleAtRank(0));
        from.due("rank 7 of eight", 0, () -> withEightNeedles().needleAtRank(7));
        from.throwsDue("rank -1 of one", NO_ELEMENT, () -> withNeedles(5).needleAtRank(-1));
        Sentence none = Sentence.of(21, "Throws `NoSuchElementException` if there is no such rank");
        none.refuses("rank 0 of none", NO_ELEMENT, NeedleBakery::new, y -> y.needleAtRank(0));
        none.refuses("rank 8 of eight", NO_ELEMENT, Scenes::withEightNeedles, y -> y.needleAtRank(8));
        for (int rank : new int[] {-1, 3, Integer.MIN_VALUE, Integer.MAX_VALUE}) {
            none.refuses("rank " + rank + " of three", NO_ELEMENT, Scenes::lived, y -> y.needleAtRank(rank));
        }
    }

    private static void meanError() {
        Sentence mean = Sentence.of(22, "Returns the sum of their errors divided by their number, both converted to double.");
        NeedleBakery x = withNeedles(1, 2, 3);
        x.setDeviation(0, 0, 1);
        mean.due("1 / 3", 1.0 / 3.0, () -> x.meanError());
        mean.due("of one", 1.0, () -> {
            x.discard(1);
            x.discard(2);
            return x.meanError();
        });
        Sentence none = Sentence.of(22, "Throws `ArithmeticException` if there are no good needles");
        none.refuses("without needles", ARITHMETIC, NeedleBakery::new, y -> y.meanError());
        none.refuses("all discarded or rejects", ARITHMETIC, () -> {
            NeedleBakery y = lived();
            y.discard(0);
            return y;
        }, y -> y.meanError());
        none.due("one good needle without an error", 0.0, () -> withNeedles(5).meanError());
    }
}
