/** Every sentence of the document, each with a test of its own. */
public final class SentencesTest {
    public static void main(String[] args) {
        AheadSentences.all();
        CounterSentences.all();
        MachineSentences.all();
        WordSentences.all();
        BitSentences.all();
        RefusalSentences.all();
        Sentence.everyOneHasATest();
        Due.end();
    }
}
