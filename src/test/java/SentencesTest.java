/** All promises and "Terms": each sentence of the document has a test of its own, which asks for its edges. */
public final class SentencesTest {
    public static void main(String[] args) {
        StallSentences.test();
        OrderSentences.test();
        PoolSentences.test();
        BookSentences.test();
        LineSentences.test();
        TextSentences.test();
        UndoSentences.test();
        TermSentences.test();
        TradeSentences.test();
        GrammarSentences.test();
        Sentence.eachIsTested();
        Check.end("SentencesTest");
    }
}
