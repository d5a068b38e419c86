import java.io.IOException;

/** Every sentence of the document has a test of its own; see Doc. */
public final class SentencesTest {
    private SentencesTest() {
    }

    public static void main(String[] args) throws IOException {
        Doc.read();
        GuestSentences.run();
        ShoeSentences.run();
        RoundSentences.run();
        GameSentences.run();
        FigureSentences.run();
        ChipTerms.run();
        CardTerms.run();
        GameTerms.run();
        Doc.allAreTested();
        Expect.end(SentencesTest.class);
    }
}
