import java.util.ArrayList;
import java.util.List;

/** The document's sentences in their order, each with the tests that show it. */
final class Sentences {
    interface Test {
        void show(Due due);
    }

    private record Sentence(String words, List<Test> tests) { }

    private final List<Sentence> sentences = new ArrayList<>();

    void say(String words, Test... tests) {
        sentences.add(new Sentence(words, List.of(tests)));
    }

    /** A sentence that no answer was looked at for is as good as one without a test. */
    void show(Due due) {
        for (Sentence sentence : sentences) {
            due.promise(sentence.words);
            int before = due.calls();
            sentence.tests.forEach(test -> test.show(due));
            due.is("it has a test", true, due.calls() > before);
        }
    }

    String words() {
        List<String> words = new ArrayList<>();
        sentences.forEach(sentence -> words.add(sentence.words));
        return String.join(" ", words);
    }
}
