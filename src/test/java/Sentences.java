import java.util.ArrayList;
import java.util.List;

/** All sentences of the document, in its order, each with its test. */
final class Sentences {
    private final List<Sentence> all = new ArrayList<>();

    private Sentences() {
    }

    static List<Sentence> ofDocument() {
        Sentences sentences = new Sentences();
        TermSentences.addTo(sentences);
        CallSentences.addTo(sentences);
        LookSentences.addTo(sentences);
        return sentences.all;
    }

    Sentence test(String place, String words, Sentence.Test test) {
        Sentence sentence = new Sentence(place, words, test);
        all.add(sentence);
        return sentence;
    }

    /** A sentence that names no boundary, and that no call could break. */
    void plain(String place, String words) {
        all.add(new Sentence(place, words, null));
    }

    /** What is wrong first, or an empty text. A test that ends with an exception is wrong too. */
    static String wrongOf(Sentence sentence) {
        Check check = new Check(false);
        try {
            sentence.test.check(check);
        } catch (RuntimeException e) {
            check.tell("threw " + e);
        }
        if (check.checked() == 0) {
            check.tell("nothing was checked");
        }
        return check.firstWrong();
    }

    /** The same by number, for whoever has loaded these classes together with another program. */
    static String wrongOf(int number) {
        return wrongOf(ofDocument().get(number));
    }
}
