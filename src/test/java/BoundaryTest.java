import java.io.IOException;

/**
 * The boundary cases, sentence by sentence: too small, too large, empty, full, a wrap-around, a refused call.
 * Each sentence of the document that names one has a method of its own in the classes called here.
 */
public final class BoundaryTest {
    private static final int PROMISES = 34;

    private BoundaryTest() { }

    public static void main(String[] args) throws IOException {
        Check check = new Check();
        Sentences sentences = new Sentences(check);
        new TextBounds(sentences).all();
        new CoastBounds(sentences).all();
        new ActBounds(sentences).all();
        new KeepBounds(sentences).all();
        new LessonBounds(sentences).all();
        new SeenBounds(sentences).all();
        new RefusalBounds(sentences).all();
        sentences.end(PROMISES);
        check.end("BoundaryTest");
    }
}
