import java.io.IOException;
import java.util.List;

/** The class has the face that the document writes, and nothing else that is open; a wrong face would be told. */
public final class FaceTest {
    private static final String CLASS = "public final class HourglassTag {";
    private static final String FIELD = "private final Game game";
    private static final String HELPER = "private static boolean isTower(";
    private static final String INSIDE = "private static final class Ways {";

    /** Of the program as it stands, the first text, which stands there once, is the second one. */
    private static final String[][] WRONG_FACES = {
        {"int NONE = -1;", "int NONE = -2;"},
        {"public static final int NONE", "static final int NONE"},
        {"public static final int NONE", "private static final int NONE"},
        {"public static final int NONE", "public static final short NONE"},
        {"int NONE = -1;", "int NONE = -1; public static final int MOST = 4;"},
        {"public HourglassTag() {", "HourglassTag() {"},
        {"public HourglassTag() {", "public HourglassTag(int towers) { this(); } public HourglassTag() {"},
        {"public int prey() {", "int prey() {"},
        {"public int prey() {", "public int preyOfIt() {"},
        {"public int lookout() {", "public long lookout() {"},
        {"public double belowShare() {", "public float belowShare() { return 0; } double share() {"},
        {"public int clearBuffer() {", "public static int clearBuffer() { return 0; } int clear() {"},
        {"public int firstError() {", "public final int firstError() {"},
        {"public int price(int from, int to, int what)", "public int price(int to, int from, int what)"},
        {"public int whyNot(int player, int tower)", "public int whyNot(int tower, int player)"},
        {"public int undo() throws IllegalStateException {", "public int undo() {"},
        {"public int lookout() {", "public int lookout() throws IllegalStateException {"},
        {"public int append(int code) throws IllegalArgumentException, IllegalStateException {",
            "public int append(int code) throws IllegalStateException, IllegalArgumentException {"},
        {"public int append(int code) throws IllegalArgumentException", "public int append(long code) { return 0; }"
            + " public int append(int code) throws IllegalArgumentException"},
        {FIELD, "final Game game"},
        {FIELD, "protected final Game game"},
        {FIELD, "public int extra = 0; " + FIELD},
        {HELPER, "static boolean isTower("},
        {HELPER, "protected static boolean isTower("},
        {HELPER, "public static boolean isTower("},
        {HELPER, "private static int prey(int player) { return player; } " + HELPER},
        {HELPER, "public String toString() { return \"\"; } " + HELPER},
        {INSIDE, "public static final class Ways {"},
        {INSIDE, "protected static final class Ways {"},
        {INSIDE, "private final class Ways {"},
        {INSIDE, INSIDE + " public static final class Way { }"},
        {CLASS, "public class HourglassTag {"},
        {CLASS, "final class HourglassTag {"},
        {CLASS, "public final class HourglassTag extends java.util.Random {"},
        {CLASS, "public final class HourglassTag implements Cloneable {"},
    };
    /** What rule 1 leaves free: the tests must not send it back. */
    private static final String[][] RIGHT_FACES = {
        {INSIDE, "static final class Ways {"},
        {FIELD, "private int extra = 0; " + FIELD},
        {HELPER, "private static int preyOf(int player) { return player; } " + HELPER},
    };

    private static final Check CHECK = new Check();

    private FaceTest() {
    }

    public static void main(String[] args) throws IOException, ReflectiveOperationException {
        String source = Programs.asItStands();
        CHECK.same("faults of the face", told(source), "");
        CHECK.same("NONE", HourglassTag.NONE, -1);
        CHECK.same("methods of the face", Face.methodNames().size(), 25);
        for (String[] change : WRONG_FACES) {
            CHECK.holds("told: " + change[0] + " -> " + change[1], !told(changed(source, change)).isEmpty());
        }
        for (String[] change : RIGHT_FACES) {
            CHECK.same(change[0] + " -> " + change[1], told(changed(source, change)), "");
        }
        CHECK.end();
    }

    private static String told(String source) throws IOException, ReflectiveOperationException {
        List<String> faults = Face.faultsOf(source);
        return String.join("; ", faults);
    }

    private static String changed(String source, String[] change) {
        int at = source.indexOf(change[0]);
        CHECK.holds("stands once in the program: " + change[0], at >= 0 && source.indexOf(change[0], at + 1) < 0);
        return source.replace(change[0], change[1]);
    }
}
