import java.util.function.LongSupplier;

/** Long runs of calls, ordinary and wrong ones mixed, whose every answer is compared with the model's. */
public final class ModelTest {
    private static final int RUNS = 400;
    private static final int CALLS = 512;
    private static final int[] ODD = {-1, 10, 4, 11, 201, 127, 32, Integer.MIN_VALUE, Integer.MAX_VALUE};
    private static final String MOVES = "wwwwwoossssstttx9";

    private static final Check CHECK = new Check();
    private static long seed = 1;
    private static boolean wild = false;
    private static final StringBuilder TOLD = new StringBuilder();

    private ModelTest() {
    }

    public static void main(String[] args) {
        for (int run = 0; run < RUNS; run++) {
            play(run);
        }
        CHECK.end();
    }

    /** A row of numbers of our own, so that each run of this test is the same. */
    private static int below(int bound) {
        seed = seed * 6364136223846793005L + 1442695040888963407L;
        return (int) ((seed >>> 33) % bound);
    }

    /** Mostly 0 to most, at times what is out of range. */
    private static int argument(int most) {
        if (wild && below(20) == 0) {
            return ODD[below(ODD.length)];
        }
        return below(most + 1);
    }

    private static void play(int run) {
        wild = run % 2 == 1;
        HourglassTag x = new HourglassTag();
        Model m = new Model();
        TOLD.setLength(0);
        int calls = 0;
        if (run % 8 != 0) {
            calls += setUp(x, m, 1 + run % 4);
        }
        while (calls < CALLS) {
            int kind = below(100);
            calls++;
            if (kind < 30) {
                move(x, m, below(8));
            } else if (kind < 38 && calls + 14 < CALLS) {
                calls += text(x, m);
            } else if (kind < 50) {
                change(x, m, below(8));
            } else if (kind < 95) {
                look(x, m, below(9));
            } else {
                compare("digest", x::digest, m::digest);
            }
        }
    }

    private static int setUp(HourglassTag x, Model m, int players) {
        int hills = below(3) == 0 ? 0 : 1 + below(9);
        for (int tower = 0; tower < 10; tower++) {
            int t = tower;
            int h = below(2) * below(hills + 1);
            compare("height", () -> x.height(t, h), () -> m.height(t, h));
        }
        for (int i = 0; i < players; i++) {
            int t = below(10);
            int s = below(4) == 0 ? below(8) : below(201);
            compare("player", () -> x.player(t, s), () -> m.player(t, s));
        }
        for (int i = 0; i < 3; i++) {
            int k = below(4);
            int v = below(k % 2 == 0 ? 8 : 5) + (k == 0 ? 1 : 0);
            compare("set", () -> x.set(k, v), () -> m.set(k, v));
        }
        return 13 + players;
    }

    private static void move(HourglassTag x, Model m, int kind) {
        int t = argument(9);
        int p = argument(3);
        if (kind < 2) {
            compare("rest", x::rest, m::rest);
        } else if (kind < 5) {
            compare("stride " + t, () -> x.stride(t), () -> m.stride(t));
        } else if (kind < 6) {
            compare("turnOver", x::turnOver, m::turnOver);
        } else {
            compare("tag " + p, () -> x.tag(p), () -> m.tag(p));
        }
    }

    private static int text(HourglassTag x, Model m) {
        int length = below(12);
        boolean whole = below(3) > 0;
        int done = 0;
        for (int i = 0; i < length; i++) {
            char letter = MOVES.charAt(below(whole ? MOVES.length() - 2 : MOVES.length()));
            append(x, m, letter);
            done++;
            if (letter == 's' || letter == 't') {
                append(x, m, '0' + argument(letter == 's' ? 9 : 3));
                done++;
                i++;
            }
        }
        if (below(4) == 0) {
            append(x, m, argument(126));
            done++;
        }
        compare("firstError", x::firstError, m::firstError);
        compare("run", x::run, m::run);
        if (below(3) > 0) {
            compare("clearBuffer", x::clearBuffer, m::clearBuffer);
            done++;
        }
        return done + 1;
    }

    private static void append(HourglassTag x, Model m, int code) {
        compare("append " + code, () -> x.append(code), () -> m.append(code));
    }

    private static void change(HourglassTag x, Model m, int kind) {
        int t = argument(9);
        int h = argument(9);
        int s = argument(200);
        int k = argument(3);
        int v = argument(20);
        int slot = argument(1);
        switch (kind) {
            case 0:
                compare("height " + t + " " + h, () -> x.height(t, h), () -> m.height(t, h));
                break;
            case 1:
                compare("player " + t + " " + s, () -> x.player(t, s), () -> m.player(t, s));
                break;
            case 2:
                compare("set " + k + " " + v, () -> x.set(k, v), () -> m.set(k, v));
                break;
            case 3:
                compare("keep " + slot, () -> x.keep(slot), () -> m.keep(slot));
                break;
            case 4:
                compare("goBack " + slot, () -> x.goBack(slot), () -> m.goBack(slot));
                break;
            case 5:
                append(x, m, argument(126));
                break;
            default:
                compare("undo", x::undo, m::undo);
        }
    }

    private static void look(HourglassTag x, Model m, int kind) {
        int t = argument(9);
        int u = argument(9);
        int p = argument(3);
        int w = argument(kind == 0 ? 3 : kind == 1 ? 8 : kind == 2 ? 10 : kind == 3 ? 3 : 1);
        switch (kind) {
            case 0:
                compare("tower " + t + " " + w, () -> x.tower(t, w), () -> m.tower(t, w));
                break;
            case 1:
                compare("playerOf " + p + " " + w, () -> x.playerOf(p, w), () -> m.playerOf(p, w));
                break;
            case 2:
                compare("count " + w, () -> x.count(w), () -> m.count(w));
                break;
            case 3:
                compare("setting " + w, () -> x.setting(w), () -> m.setting(w));
                break;
            case 4:
                compare("price " + t + " " + u + " " + w, () -> x.price(t, u, w), () -> m.price(t, u, w));
                break;
            case 5:
                compare("whyNot " + p + " " + t, () -> x.whyNot(p, t), () -> m.whyNot(p, t));
                break;
            case 6:
                compare("movesTo " + p + " " + t, () -> x.movesTo(p, t), () -> m.movesTo(p, t));
                break;
            case 7:
                compare("prey", x::prey, m::prey);
                compare("lookout", x::lookout, m::lookout);
                break;
            default:
                CHECK.same("belowShare", x.belowShare(), m.belowShare());
                compare("all sand", () -> x.count(6), () -> x.count(9));
        }
    }

    private static void compare(String call, LongSupplier program, LongSupplier model) {
        String got = answer(program);
        String due = answer(model);
        TOLD.append(call).append(" = ").append(due).append("; ");
        CHECK.holds(got.equals(due) ? "" : TOLD + " but the program answered " + got, got.equals(due));
    }

    private static String answer(LongSupplier call) {
        try {
            return Long.toString(call.getAsLong());
        } catch (IndexOutOfBoundsException | IllegalArgumentException | IllegalStateException e) {
            return e.getClass().getSimpleName();
        }
    }
}
