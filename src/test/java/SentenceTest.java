/** Each sentence of the document that names a boundary: at it, just before it, just behind it. */
public final class SentenceTest {
    public static void main(String[] args) {
        FileTerms.run();
        MemoryTerms.run();
        HeapTerms.run();
        StateTerms.run();
        RefusalTerms.run();
        FileSentences.run();
        MemorySentences.run();
        StateSentences.run();
        Due.noSentenceLeft("Terms");
        for (int promise = 1; promise <= 21; promise++) {
            Due.noSentenceLeft("Promise " + promise);
        }
        Due.end();
    }
}
