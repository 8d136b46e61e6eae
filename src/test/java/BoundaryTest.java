import java.io.IOException;
import java.nio.file.Path;

/** For each sentence of the document that names a boundary case: a test of its own, named by its promise. */
public final class BoundaryTest extends Boundaries {
    public static void main(String[] args) throws IOException {
        readDocument(Path.of(args.length > 0 ? args[0] : "."));
        TextBoundaries.all();
        AffairsBoundaries.all();
        AskedBoundaries.all();
        endSentences();
        end("boundaries");
    }
}
