/**
 * A test of its own for each sentence of the document's "Terms" and promises: at the boundary that it
 * names, below it and above it; and for each refused call, which exception it throws and that no
 * later call shows it.
 */
public final class SentencesTest {
    public static void main(String[] args) {
        Doc.open();
        TermsEdges.run();
        TellingEdges.run();
        AskingEdges.run();
        Doc.close();
        Check.end("SentencesTest");
    }
}
