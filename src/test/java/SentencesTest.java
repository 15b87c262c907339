/** Every sentence of the terms and the promises, each with a test of its own. */
public final class SentencesTest {
    public static void main(String[] args) {
        CounterSentences.all();
        MachineSentences.all();
        WordSentences.all();
        BitSentences.all();
        RefusalSentences.all();
        Sentence.everyOneHasATest();
        Due.end();
    }
}
