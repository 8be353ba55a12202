/** Every sentence of the document with a test of its own, at its boundaries. */
public final class SentencesTest {
    private SentencesTest() {
    }

    public static void main(String[] args) {
        Sentences sentences = new Sentences();
        TheWhole.test(sentences);
        TermsOfTheRow.test(sentences);
        TermsOfTheBook.test(sentences);
        TermsOfTheRace.test(sentences);
        TermsOfTheTown.test(sentences);
        PromisesToTell.test(sentences);
        PromisesOfTheBook.test(sentences);
        PromisesOfTheRace.test(sentences);
        PromisesOfTheTown.test(sentences);
        sentences.finish();
    }
}
