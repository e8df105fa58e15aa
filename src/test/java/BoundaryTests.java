/** Each sentence of the document that names a boundary, word for word, with a test of its own. */
public final class BoundaryTests {
    public static void main(String[] arguments) {
        NeedleBoundaries.test();
        CourseBoundaries.test();
        PairBoundaries.test();
        OvenBoundaries.test();
        ProgramBoundaries.test();
        UndoBoundaries.test();
        Sentence.noneForgotten();
        Check.end("BoundaryTests");
    }
}
