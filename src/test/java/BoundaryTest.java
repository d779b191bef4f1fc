import java.io.IOException;

/** Each sentence of the document that names a boundary case has a test of its own, by all promises. */
public final class BoundaryTest {
    public static void main(String[] args) throws IOException {
        TermsBoundaries.all();
        TickBoundaries.all();
        RingBoundaries.all();
        TellingBoundaries.all();
        QuestionBoundaries.all();
        Sentence.documentIsQuoted();
        if (args.length > 0) {
            Sentence.tellQuotes();
        }
        Check.end("BoundaryTest");
    }
}
