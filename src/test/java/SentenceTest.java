/** Each sentence of the document; at a boundary that it names, just before it, just behind it. */
public final class SentenceTest {
    public static void main(String[] args) {
        WholeSentences.run();
        FaceSentences.run();
        FileTerms.run();
        MemoryTerms.run();
        HeapTerms.run();
        StateTerms.run();
        RefusalTerms.run();
        FileSentences.run();
        MemorySentences.run();
        StateSentences.run();
        for (String section : new String[] {"What it is", "The public face", "Terms", "Not promised"}) {
            Due.noSentenceLeft(section);
        }
        for (int promise = 1; promise <= 21; promise++) {
            Due.noSentenceLeft("Promise " + promise);
        }
        Due.end();
    }
}
