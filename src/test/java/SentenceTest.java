import java.io.IOException;

/**
 * The document, sentence by sentence: each test names the words that it is about, and all words of the terms and of the
 * promises are named.
 */
public final class SentenceTest {
    public static void main(String[] args) throws IOException {
        Document document = new Document();
        TermsSentences.check(document);
        TickSentences.check(document);
        StageSentences.check(document);
        PadSentences.check(document);
        ChangeSentences.check(document);
        LookSentences.check(document);
        WhatIfSentences.check(document);
        TextSentences.check(document);
        HistorySentences.check(document);
        document.allAreNamed();
        Due.end();
    }

    private SentenceTest() {
    }
}
