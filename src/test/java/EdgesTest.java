import java.io.IOException;
import java.nio.file.Path;

/** Each sentence of the document that names a boundary case has a test here, known by its words. */
public final class EdgesTest {
    private EdgesTest() {
    }

    public static void main(String[] args) throws IOException {
        Check check = new Check();
        Sentences doc = new Sentences(check, Path.of("../shared/DOC.md"));
        new TermsEdges(check, doc).all();
        new ArrivalEdges(check, doc).all();
        new SenderEdges(check, doc).all();
        new ReceiverEdges(check, doc).all();
        doc.tellUntested();
        check.end("EdgesTest");
    }
}
