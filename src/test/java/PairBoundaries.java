/** The boundary sentences on pairs: promises 23 to 26, and what the Terms say of them. */
final class PairBoundaries extends Scenes {
    private PairBoundaries() {
    }

    static void test() {
        termsOfPairings();
        goodCount();
        fewerThanTwo();
        partnerOf();
        partnerRefused();
    }

    private static void leastIs(Sentence s, int due, int... strengths) {
        NeedleBakery x = withNeedles(strengths);
        s.due("leastDifference of " + strengths.length, due, () -> x.leastDifference());
        s.due("leastDifferenceByOrder of " + strengths.length, due, () -> x.leastDifferenceByOrder());
    }

    private static void termsOfPairings() {
        Sentence odd = Sentence.ofTerms("A pairing of the good needles consists of pairs, so that each good needle is in one pair, "
                + "but one of them is in none if their number is odd.");
        leastIs(odd, 98, 1, 99);
        leastIs(odd, 97, 1, 50, 99, 51);
        leastIs(odd, 0, 7, 7, 99);
        leastIs(odd, 0, 99, 7, 7);
        leastIs(odd, 0, 7, 99, 7);
        leastIs(odd, 2, 10, 40, 41, 70, 71);
        leastIs(odd, 6, 1, 3, 50, 60, 62, 97, 99);
        leastIs(odd, 98, 1, 99, 1, 99, 1, 99);
        leastIs(odd, 0, 1, 99, 1, 99, 1, 99, 1);
        leastIs(odd, 0, 1, 99, 1, 99, 1, 99, 1, 99);
        Sentence sum = Sentence.ofTerms("The difference of a pairing is the sum of the differences of the strengths in its pairs.");
        leastIs(sum, 40, 10, 20, 30, 40, 50, 60, 70, 80);
        leastIs(sum, 98 + 0 + 0 + 0, 1, 99, 50, 50, 20, 20, 80, 80);
    }

    private static void goodCount() {
        Sentence s = Sentence.of(23, "Returns the number of good needles.");
        Sentence returned = Sentence.of(23, "Returns the number of needles.");
        s.due("without needles", 0, () -> new NeedleBakery().goodCount());
        NeedleBakery x = withEightNeedles();
        for (int left = 8; left > 0; left--) {
            int due = left;
            returned.due("with " + due + " left", due, () -> x.goodCount());
            x.discard(left - 1);
        }
        s.due("all discarded", 0, () -> x.goodCount());
    }

    private static void fewerThanTwo() {
        String words = "Returns the difference, 0 for fewer than 2 good needles.";
        fewerThanTwo(Sentence.of(24, words), x -> x.leastDifference());
        fewerThanTwo(Sentence.of(25, words), x -> x.leastDifferenceByOrder());
    }

    private static void fewerThanTwo(Sentence s, Sentence.Call call) {
        s.due("of none", 0, () -> call.on(new NeedleBakery()));
        s.due("of one", 0, () -> call.on(withNeedles(99)));
        s.due("of two", 98, () -> call.on(withNeedles(99, 1)));
        NeedleBakery x = withNeedles(1, 50, 99);
        s.due("of three", 49, () -> call.on(x));
        x.discard(0);
        s.due("of two and a discarded one", 49, () -> call.on(x));
        x.setDeviation(2, 3, -11);
        s.due("of one, a discarded one and a reject", 0, () -> call.on(x));
        x.discard(1);
        s.due("of none that is good", 0, () -> call.on(x));
    }

    private static void partnerOf() {
        Sentence s = Sentence.of(26, "the one with the lowest number with which such a pairing is possible.");
        NeedleBakery equal = withNeedles(5, 5, 5, 5, 5, 5, 5, 5);
        s.due("of needle 0, all being equal", 1, () -> equal.partnerOf(0));
        s.due("of needle 1, all being equal", 0, () -> equal.partnerOf(1));
        s.due("of needle 7, all being equal", 0, () -> equal.partnerOf(7));
        NeedleBakery x = withNeedles(30, 20, 10);
        s.due("of needle 1, two being as near", 0, () -> x.partnerOf(1));
        s.due("of needle 2, by the pairing that leaves over needle 0", 1, () -> x.partnerOf(2));
        NeedleBakery apart = withEightNeedles();
        s.due("of the eighth", 6, () -> apart.partnerOf(7));
        apart.discard(0);
        apart.discard(6);
        s.due("of the eighth without the seventh", 5, () -> apart.partnerOf(7));
        // The nearest strength is not the partner where that would leave others far apart.
        NeedleBakery far = withNeedles(10, 20, 21, 40);
        s.due("not the nearest", 0, () -> far.partnerOf(1));
    }

    private static void partnerRefused() {
        Sentence s = Sentence.of(26, "Throws `NoSuchElementException` if the needle is not good, or is in no pair in any such pairing");
        s.refuses("a discarded needle", NO_ELEMENT, Scenes::lived, x -> x.partnerOf(1));
        s.refuses("a reject", NO_ELEMENT, Scenes::lived, x -> x.partnerOf(2));
        s.refuses("the only good needle", NO_ELEMENT, Scenes::lived, x -> x.partnerOf(0));
        s.refuses("the only needle", NO_ELEMENT, () -> withNeedles(5), x -> x.partnerOf(0));
        s.refuses("the one that is left over", NO_ELEMENT, () -> withNeedles(10, 99, 11), x -> x.partnerOf(1));
        NeedleBakery reject = withNeedles(10, 10);
        reject.setDeviation(1, 7, 11);
        s.throwsDue("a reject as strong as a good one", NO_ELEMENT, () -> reject.partnerOf(1));
        s.throwsDue("the good one", NO_ELEMENT, () -> reject.partnerOf(0));
        reject.setTolerance(11);
        s.due("no longer a reject", 0, () -> reject.partnerOf(1));
    }
}
