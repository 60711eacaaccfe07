import java.util.ArrayList;
import java.util.List;

/** A sentence of the document, or a part of one: where it stands, its words, its test, and how it could be broken. */
final class Sentence {
    interface Test {
        void check(Check c);
    }

    /** One wrong program: behind the anchor, which stands once in the source, the first such text is another one. */
    record Break(String anchor, String from, String to) {
    }

    final String place;
    final String words;
    final Test test;
    final List<Break> breaks = new ArrayList<>();

    Sentence(String place, String words, Test test) {
        this.place = place;
        this.words = words;
        this.test = test;
    }

    boolean isTested() {
        return test != null;
    }

    /** With such a program the test has to fail. */
    Sentence broken(String anchor, String from, String to) {
        breaks.add(new Break(anchor, from, to));
        return this;
    }

    /** The text to change stands once in the source, and needs no anchor. */
    Sentence broken(String from, String to) {
        return broken(from, from, to);
    }

    String name() {
        return place + ": " + words;
    }
}
