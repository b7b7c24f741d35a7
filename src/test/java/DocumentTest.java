/**
 * The document from its first line to its last: each sentence that asks something of the class has a test that names
 * it, and those that name a boundary are tested on both sides of it.
 */
public final class DocumentTest {
    private DocumentTest() {
    }

    public static void main(String[] args) {
        FirstLines.check();
        FaceOfDoc.check();
        TextEdges.check();
        ToldEdges.check();
        DeedEdges.check();
        TrialEdges.check();
        KeptEdges.check();
        GreatestNumbers.check();
        PlainSentences.check();
        ByDoing.check();
        Doc.everyWordIsNamed();
        Check.end();
    }
}
