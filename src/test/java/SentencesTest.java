import java.io.IOException;

/** Each sentence of the document, from its first to its last promise, has a test of its own. */
public final class SentencesTest {
    public static void main(String[] args) throws IOException {
        Due due = new Due();
        Sentences sentences = new Sentences();
        WhatItIsSentences.say(sentences);
        TermsSentences.say(sentences);
        MayBeSentences.say(sentences);
        WaitingSentences.say(sentences);
        SetUpSentences.say(sentences);
        BookSentences.say(sentences);
        CancelSentences.say(sentences);
        ChangeSentences.say(sentences);
        TickSentences.say(sentences);
        LookSentences.say(sentences);
        sentences.show(due);
        due.promise("the document");
        compare(due, Document.words(), sentences.words());
        due.end();
    }

    private static void compare(Due due, String document, String tested) {
        int same = 0;
        while (same < Math.min(document.length(), tested.length())
                && document.charAt(same) == tested.charAt(same)) {
            same++;
        }
        String rest = document.substring(same, Math.min(document.length(), same + 80));
        due.is("every sentence is tested; not from here on: '" + rest + "'", true,
                document.equals(tested));
        due.is("and there are sentences", true, document.length() > 1000);
    }
}
