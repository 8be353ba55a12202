/** Stage 2: every sentence of the document's terms and promises with a test of its own, at its boundaries. */
public final class SentencesTest {
    private SentencesTest() {
    }

    public static void main(String[] args) {
        Sentences sentences = new Sentences();
        TermsOfTheRow.test(sentences);
        TermsOfTheBook.test(sentences);
        TermsOfTheRace.test(sentences);
        TermsOfTheTown.test(sentences);
        PromisesToTell.test(sentences);
        PromisesOfTheBook.test(sentences);
        PromisesOfTheRace.test(sentences);
        PromisesOfTheTown.test(sentences);
        sentences.finish();
    }
}
