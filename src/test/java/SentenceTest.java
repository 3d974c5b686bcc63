import java.io.IOException;

/** Each sentence of the document has a test of its own, and none is left without one. */
public final class SentenceTest {
    public static void main(String[] args) throws IOException {
        Document document = new Document();
        CountTerms.tell(document);
        GroupTerms.tell(document);
        FlowTerms.tell(document);
        BookPromises.tell(document);
        AnswerPromises.tell(document);
        document.isQuotedWhole();
        Desk.leave();
    }
}
