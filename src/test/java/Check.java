import java.util.function.Consumer;
import java.util.function.Supplier;

/** Counts what is wrong in one test and tells it; ends the test with exit code 1 if anything was. */
final class Check {
    /** A call with a number that the test chooses. */
    interface ValueCall {
        void on(HourglassTag x, int value);
    }

    private final boolean loud;
    private int checked = 0;
    private int wrong = 0;
    private String firstWrong = "";

    Check() {
        this(true);
    }

    /** A check that is not loud only remembers what was wrong first. */
    Check(boolean loud) {
        this.loud = loud;
    }

    int checked() {
        return checked;
    }

    /** What was told first, or an empty text. */
    String firstWrong() {
        return firstWrong;
    }

    void same(String what, long got, long due) {
        checked++;
        if (got != due) {
            tell(what + " answered " + got + ", due is " + due);
        }
    }

    void same(String what, double got, double due) {
        checked++;
        if (Double.doubleToLongBits(got) != Double.doubleToLongBits(due)) {
            tell(what + " answered " + got + ", due is " + due);
        }
    }

    void same(String what, String got, String due) {
        checked++;
        if (!got.equals(due)) {
            tell(what + " answered " + got + ", due is " + due);
        }
    }

    void holds(String what, boolean so) {
        checked++;
        if (!so) {
            tell(what + " does not hold");
        }
    }

    /** The call throws exactly this exception, and the digest tells that nothing changed behind it. */
    void refuses(String what, HourglassTag x, Class<? extends RuntimeException> due, Runnable call) {
        checked++;
        long before = x.digest();
        Class<?> got = thrownBy(call);
        if (got != due) {
            tell(what + " threw " + got + ", due is " + due);
        }
        if (x.digest() != before) {
            tell(what + " threw, but changed something");
        }
    }

    /**
     * The call throws exactly this exception, and all that can be told of the object to its end (saved states and
     * slots too) is as on a second object, on which the call was not made.
     */
    void throwsOn(String what, Class<? extends RuntimeException> due, Supplier<HourglassTag> made,
            Consumer<HourglassTag> call) {
        HourglassTag x = made.get();
        Class<?> got = thrownBy(() -> call.accept(x));
        holds(what + " threw " + got + ", due is " + due + ": that", got == due);
        holds(what + " changes nothing: that", Games.picture(x).equals(Games.picture(made.get())));
    }

    /**
     * Each number just outside of these bounds, and the least and the largest int, is answered by this exception; the
     * bounds themselves are not.
     */
    void throwsOutside(String what, Class<? extends RuntimeException> due, Supplier<HourglassTag> made,
            int least, int most, ValueCall call) {
        for (int value : new int[] {least - 1, most + 1, Integer.MIN_VALUE, Integer.MAX_VALUE}) {
            throwsOn(what + " with " + value, due, made, x -> call.on(x, value));
        }
        for (int value : least <= most ? new int[] {least, most} : new int[0]) {
            HourglassTag x = made.get();
            holds(what + " with " + value + " does not throw: that", thrownBy(() -> call.on(x, value)) != due);
        }
    }

    private static Class<?> thrownBy(Runnable call) {
        try {
            call.run();
            return null;
        } catch (RuntimeException e) {
            return e.getClass();
        }
    }

    void tell(String message) {
        wrong++;
        if (wrong == 1) {
            firstWrong = message;
        }
        if (loud && wrong <= 40) {
            System.out.println(message);
        }
    }

    void end() {
        System.out.println(wrong == 0 ? checked + " checks hold" : wrong + " of " + checked + " checks are wrong");
        if (wrong != 0) {
            System.exit(1);
        }
    }
}
