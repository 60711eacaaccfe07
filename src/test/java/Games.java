import java.util.function.Consumer;
import java.util.function.Supplier;

/** Objects as the tests need them, and all that can be told of one. */
final class Games {
    static final Class<IndexOutOfBoundsException> INDEX = IndexOutOfBoundsException.class;
    static final Class<IllegalArgumentException> ARGUMENT = IllegalArgumentException.class;
    static final Class<IllegalStateException> STATE = IllegalStateException.class;

    private Games() {
    }

    static HourglassTag empty() {
        return new HourglassTag();
    }

    static HourglassTag withHeights(int... heights) {
        HourglassTag x = new HourglassTag();
        for (int tower = 0; tower < heights.length; tower++) {
            x.height(tower, heights[tower]);
        }
        return x;
    }

    /** Two numbers for each player: the tower, and the sand. */
    static HourglassTag withPlayers(int... towersAndSand) {
        HourglassTag x = new HourglassTag();
        for (int i = 0; i < towersAndSand.length; i += 2) {
            x.player(towersAndSand[i], towersAndSand[i + 1]);
        }
        return x;
    }

    /** One player, who has so much sand below, and 100 grains above. */
    static HourglassTag alone(int tower, int below) {
        HourglassTag x = withPlayers(tower, 100 + below);
        for (int left = below; left > 0; left -= 20) {
            x.set(0, Math.min(left, 20));
            x.rest();
        }
        x.set(0, 3);
        return x;
    }

    /** Two players on one tower, each with so much sand below (1 to 20), and 100 grains above. */
    static HourglassTag pair(int tower, int below) {
        HourglassTag x = withPlayers(tower, 100 + below, tower, 100 + below);
        x.set(0, below);
        rest(x, 2);
        x.set(0, 3);
        return x;
    }

    /** Something of all: hills, sand on towers, a tag, a refused move, a snapshot in slot 1, a buffer, saved states. */
    static HourglassTag busy() {
        HourglassTag x = withPlayers(3, 60, 4, 50, 6, 40);
        x.height(5, 2);
        x.height(8, 7);
        rest(x, 3);
        x.keep(1);
        x.tag(1);
        x.stride(3);
        x.stride(9);
        x.rest();
        type(x, "ws5o");
        return x;
    }

    /** A game with 3 saved states and a snapshot in slot 0: one more state can be saved without dropping one. */
    static HourglassTag young() {
        HourglassTag x = withPlayers(3, 30, 4, 30);
        x.keep(0);
        x.rest();
        return x;
    }

    /** 4 players, a buffer of 60 characters, 6 saved states, both slots filled. */
    static HourglassTag full() {
        HourglassTag x = withPlayers(0, 10, 3, 200, 3, 0, 9, 50);
        rest(x, 4);
        x.keep(0);
        x.rest();
        x.keep(1);
        type(x, "w".repeat(60));
        return x;
    }

    /** Behind as many moves as an object makes at most; that many lie behind its 512th call. */
    static HourglassTag with9999Moves() {
        HourglassTag x = withPlayers(3, 30);
        rest(x, 9999);
        return x;
    }

    static void rest(HourglassTag x, int times) {
        for (int i = 0; i < times; i++) {
            x.rest();
        }
    }

    static void type(HourglassTag x, String text) {
        for (int i = 0; i < text.length(); i++) {
            x.append(text.charAt(i));
        }
    }

    /** What run() answers on this text. */
    static int run(HourglassTag x, String text) {
        type(x, text);
        return x.run();
    }

    /** Tower, sand above, sand below. */
    static String glass(HourglassTag x, int player) {
        return x.playerOf(player, 0) + "/" + x.playerOf(player, 1) + "/" + x.playerOf(player, 2);
    }

    /** All looks but the number of saved states. */
    static String looks(HourglassTag x) {
        StringBuilder told = new StringBuilder();
        for (int what = 0; what <= 9; what++) {
            told.append(x.count(what)).append(' ');
        }
        for (int setting = 0; setting < 4; setting++) {
            told.append(x.setting(setting)).append(' ');
        }
        for (int tower = 0; tower < 10; tower++) {
            for (int what = 0; what <= 3; what++) {
                told.append(x.tower(tower, what)).append(' ');
            }
        }
        for (int player = 0; player < x.count(0); player++) {
            for (int what = 0; what <= 8; what++) {
                told.append(x.playerOf(player, what)).append(' ');
            }
        }
        return told.append(x.belowShare()).toString();
    }

    /** All that can be told of an object to its end: itself, then its saved states, then its slots. Uses it up. */
    static String picture(HourglassTag x) {
        StringBuilder told = new StringBuilder();
        told.append(x.digest());
        for (int saved = x.count(10); saved > 0; saved--) {
            x.undo();
            told.append(' ').append(x.digest());
        }
        for (int slot = 0; slot < 2; slot++) {
            told.append(' ').append(snapshot(x, slot));
        }
        return told.toString();
    }

    private static String snapshot(HourglassTag x, int slot) {
        try {
            x.goBack(slot);
            return Long.toString(x.digest());
        } catch (IllegalStateException e) {
            return "empty";
        }
    }

    /** Whether two ways to the same end leave all the same. */
    static void alike(Check c, String what, HourglassTag one, HourglassTag other) {
        c.same(what + " leaves the same", looks(one), looks(other));
        c.same(what + " leaves the same, to the end", picture(one), picture(other));
    }

    /** The call saves one state more, from before it; with undo all is as before, but the buffer. */
    static void undoable(Check c, String what, Supplier<HourglassTag> made, Consumer<HourglassTag> call) {
        HourglassTag x = made.get();
        HourglassTag untouched = made.get();
        int saved = untouched.count(10);
        call.accept(x);
        c.same(what + " saves one", x.count(10), saved + 1);
        c.same(what + " is undone", x.undo(), saved);
        x.clearBuffer();
        untouched.clearBuffer();
        alike(c, what + ", undone,", x, untouched);
    }
}
