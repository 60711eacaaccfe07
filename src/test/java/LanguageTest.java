import java.io.IOException;

/** Those rules of ../shared/LANGUAGE.md that can be read off the source; a program against them would be told. */
public final class LanguageTest {
    private static final String CLASS = "public final class HourglassTag {";
    private static final String PREY = "return game.playersInReachOfIt();";
    private static final String INSIDE = "private static final class Ways {";
    private static final String HELPER = "private static boolean isTower(";

    /** A rule, and of the program as it stands the first text, which stands there once, and what stands instead. */
    private static final String[][] WRONG_PROGRAMS = {
        {"rule 1", CLASS, "final class Other { } " + CLASS},
        {"rule 2", PREY, "Runnable r = () -> { }; " + PREY},
        {"rule 2", PREY, "new Object() { }; " + PREY},
        {"rule 3", PREY, "String[] texts; " + PREY},
        {"rule 3", PREY, "int[][][] rows; " + PREY},
        {"rule 3", HELPER, "private static Object other() { return 0; } " + HELPER},
        {"rule 4", CLASS, "import java.util.List; " + CLASS},
        {"rule 4", PREY, "long now = System.nanoTime(); " + PREY},
        {"rule 4", PREY, "int sum = Math.addExact(1, 2); " + PREY},
        {"rule 4", PREY, "new java.util.Random(1); " + PREY},
        {"rule 5", INSIDE, INSIDE + " static int last = 0;"},
        {"rule 5", INSIDE, INSIDE + " static final double HALF = 0.5;"},
        {"rule 5", INSIDE, INSIDE + " static final int[] ROW = new int[4];"},
        {"rule 5", INSIDE, INSIDE + " static { }"},
        {"rule 5", PREY, "SETTING_LEAST[0] = 0; " + PREY},
        {"rule 6", PREY, "try { rest(); } catch (RuntimeException e) { } " + PREY},
        {"rule 6", PREY, "if (game.players > 4) { throw new RuntimeException(\"never\"); } " + PREY},
        {"rule 6", PREY, "assert game.players > 0; " + PREY},
        {"rule 6", "public HourglassTag() {", "public HourglassTag() { if (SLOTS > 2) { "
            + "throw new IllegalStateException(\"never\"); }"},
        {"rule 7", PREY, "int part = 1000 / game.players; " + PREY},
        {"rule 7", PREY, "int part = 1000; part %= game.players; " + PREY},
        {"rule 8", PREY, "return prey();"},
        {"rule 9", PREY, "for (;;) { break; } " + PREY},
        {"rule 9", PREY, "for (int i = 0; i < 4; i++) { i--; } " + PREY},
        {"rule 9", PREY, "for (int i = 0; i < 4; i++) { i = 0; } " + PREY},
        {"rule 9", PREY, "for (int i = 0; game.players < 4; i++) { } " + PREY},
        {"rule 9", PREY, "while (game.players > 4) { rest(); } " + PREY},
        {"rule 9", PREY, "do { } while (game.players > 4); " + PREY},
        {"rule 10", "\"9999 moves\"", "\"moves: \" + game.moves"},
        {"rule 11", HELPER, "private static int eight(int a, int b, int c, int d, int e, int f, int g, int h) "
            + "{ return a; } " + HELPER},
        {"rule 11", PREY, "\n".repeat(60) + PREY},
        {"rule 11", INSIDE, INSIDE + " int a, b, c, d, e, f, g, h, i, j, k, l, m, n, o, p, q, r, s, t, u;"},
        {"rule 11", HELPER, "private void a() { b(); } private void b() { c(); } private void c() { digest(); } "
            + HELPER},
        {"rule 12", PREY, "int[] row = new int[4]; " + PREY},
        {"rule 12", PREY, "new Game(); " + PREY},
    };

    private static final Check CHECK = new Check();

    private LanguageTest() {
    }

    public static void main(String[] args) throws IOException {
        String source = Programs.asItStands();
        CHECK.same("against the rules", told(source), "");
        for (String[] wrong : WRONG_PROGRAMS) {
            int at = source.indexOf(wrong[1]);
            CHECK.holds("stands once: " + wrong[1], at >= 0 && source.indexOf(wrong[1], at + 1) < 0);
            String told = told(source.replace(wrong[1], wrong[2]));
            CHECK.holds(wrong[0] + " is told of " + wrong[2] + ", not only: " + told, told.contains(wrong[0] + ":"));
        }
        CHECK.end();
    }

    private static String told(String source) throws IOException {
        return String.join("; ", Rules.toldOf(Programs.parse(source)));
    }
}
