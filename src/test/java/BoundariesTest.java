import java.io.IOException;
import java.nio.file.Path;

/**
 * The document's sentences, each with a test that quotes it: the last value that is taken and the first one that is
 * refused, what is empty and what is full, refusals that change nothing and which of them comes first. A promise or
 * a term of which no test quotes every word is found, too.
 */
public final class BoundariesTest {
    public static void main(String[] args) throws IOException {
        Check check = new Check("BoundariesTest");
        Document document = new Document(Path.of(args.length > 1 ? args[1] : "../shared/DOC.md"));
        Boundaries boundaries = new Boundaries(check, document);
        TermBoundaries.all(boundaries);
        VersionBoundaries.all(boundaries);
        PerformanceBoundaries.all(boundaries);
        TourBoundaries.all(boundaries);
        for (String part : document.unquoted()) {
            check.holds("a test quotes \"" + part + "\"", false);
        }
        check.end();
    }
}
