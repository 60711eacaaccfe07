import java.io.IOException;
import java.nio.charset.StandardCharsets;
import java.nio.file.Files;
import java.nio.file.Path;
import java.util.LinkedHashMap;
import java.util.List;
import java.util.Map;
import java.util.TreeSet;
import java.util.Set;

/** Each sentence of ../shared/DOC.md has its test, named after its place and its words, and the test holds. */
public final class SentenceTest {
    private static final Path DOCUMENT = Path.of("..", "shared", "DOC.md");
    /** What bears no sentence that a call could break: the face has a test of its own. */
    private static final Set<String> WITHOUT_SENTENCES = Set.of("The public face", "Not promised");
    private static final String PURPOSE = "Hourglass tag among towers: players with hourglasses on towers in a row,";

    private static final Check CHECK = new Check();

    private SentenceTest() {
    }

    public static void main(String[] args) throws IOException {
        List<Sentence> sentences = Sentences.ofDocument();
        int tested = 0;
        Set<String> names = new TreeSet<>();
        for (Sentence sentence : sentences) {
            CHECK.holds(sentence.name() + ": one test only", names.add(sentence.name()));
            if (sentence.isTested()) {
                tested++;
                String wrong = Sentences.wrongOf(sentence);
                CHECK.holds(sentence.name() + " -- " + wrong, wrong.isEmpty());
            }
        }
        eachSentenceIsThere(sentences);
        System.out.println(tested + " sentences have a test");
        CHECK.end();
    }

    /** The words of each entry stand at its place, and nothing else stands there. */
    private static void eachSentenceIsThere(List<Sentence> sentences) throws IOException {
        Map<String, StringBuilder> left = places(Files.readAllLines(DOCUMENT, StandardCharsets.UTF_8));
        for (Sentence sentence : sentences) {
            StringBuilder text = left.get(sentence.place);
            int at = text == null ? -1 : text.indexOf(sentence.words);
            CHECK.holds("the document says: " + sentence.name(), at >= 0);
            if (at >= 0) {
                text.replace(at, at + sentence.words.length(), "#");
            }
        }
        for (Map.Entry<String, StringBuilder> place : left.entrySet()) {
            String rest = place.getValue().toString().replaceAll("[#\\s]", "");
            boolean none = rest.isEmpty() || WITHOUT_SENTENCES.contains(place.getKey());
            CHECK.holds(place.getKey() + ": each sentence has an entry, but not: " + place.getValue(), none);
        }
    }

    /** The text below each heading, in one line; "Snapshots, undo" stands without the signs of a heading. */
    private static Map<String, StringBuilder> places(List<String> lines) {
        Map<String, StringBuilder> places = new LinkedHashMap<>();
        String place = "";
        for (String line : lines) {
            if (line.startsWith("#") || line.equals("Snapshots, undo")) {
                place = line.replaceAll("^#+ ", "").replaceAll("^(Promise \\d+):.*", "$1");
            } else if (!line.startsWith(PURPOSE)) {
                String words = line.replaceAll("^`(int|double|long|HourglassTag)[^`]*`: ", "");
                places.computeIfAbsent(place, name -> new StringBuilder()).append(words).append(' ');
            }
        }
        return places;
    }
}
