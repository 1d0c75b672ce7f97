import java.io.IOException;
import java.nio.file.Files;
import java.nio.file.Path;

/** Each sentence of the document, from its terms to its last promise, has a test of its own. */
public final class SentencesTest {
    private static final Path DOCUMENT = Path.of("../shared/DOC.md");

    public static void main(String[] args) throws IOException {
        Due due = new Due();
        Sentences sentences = new Sentences();
        TermsSentences.say(sentences);
        MayBeSentences.say(sentences);
        WaitingSentences.say(sentences);
        SetUpSentences.say(sentences);
        BookSentences.say(sentences);
        CancelSentences.say(sentences);
        ChangeSentences.say(sentences);
        TickSentences.say(sentences);
        LookSentences.say(sentences);
        sentences.show(due);
        due.promise("the document");
        compare(due, promised(Files.readString(DOCUMENT)), sentences.words());
        due.end();
    }

    /** The words of the terms and the promises, without headings and the forms of the calls. */
    private static String promised(String document) {
        int first = Math.max(0, document.indexOf("## Terms"));
        int last = Math.max(first, document.indexOf("## Not promised"));
        return document.substring(first, last)
                .replaceAll("(?m)^#.*$", "")
                .replaceAll("(?m)^`[^`]*`: ", "")
                .replaceAll("\\s+", " ").trim();
    }

    private static void compare(Due due, String document, String tested) {
        int same = 0;
        while (same < Math.min(document.length(), tested.length())
                && document.charAt(same) == tested.charAt(same)) {
            same++;
        }
        String rest = document.substring(same, Math.min(document.length(), same + 80));
        due.is("every sentence is tested; not from here on: '" + rest + "'", true,
                document.equals(tested));
        due.is("and there are sentences", true, document.length() > 1000);
    }
}
