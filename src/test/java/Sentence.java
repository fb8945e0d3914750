import java.util.HashSet;
import java.util.Set;

/** Ties each test to the sentence of the document that it asks for, so that none is left without one. */
final class Sentence {
    private static final Set<String> TESTED = new HashSet<>();

    private Sentence() {
    }

    static void holds(int promise, String sentence, Runnable test) {
        String key = Document.key(promise, sentence);
        Check.about(key);
        Check.due("stands in the document", true, Document.sentences().contains(key));
        int before = Check.count();
        try {
            test.run();
        } catch (RuntimeException e) {
            Check.due("the test's calls", "no exception", e.toString());
        }
        Check.due("has a test", true, Check.count() > before);
        TESTED.add(key);
        Check.about("");
    }

    static void eachIsTested() {
        for (String key : Document.sentences()) {
            Check.due(key + " has a test", true, TESTED.contains(key));
        }
    }
}
