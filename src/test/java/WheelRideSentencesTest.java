import java.io.IOException;
import java.nio.file.Path;

/** Each sentence of the document by a test of its own, boundary cases above all; no sentence is left out. */
public final class WheelRideSentencesTest {
    public static void main(String[] args) throws IOException {
        Sentences doc = new Sentences(Path.of(System.getProperty("wheelride.document", "../shared/DOC.md")));
        new EdgesOfTexts(doc).run();
        new EdgesOfSteps(doc).run();
        new EdgesOfForetold(doc).run();
        new EdgesOfAsks(doc).run();
        new EdgesOfCalls(doc).run();
        doc.allQuotedUnder("Terms");
        doc.allQuotedUnder("Promise ");
        doc.end();
    }
}
