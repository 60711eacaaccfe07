/** Counts what is wrong in one test and tells it; ends the test with exit code 1 if anything was. */
final class Check {
    private int checked = 0;
    private int wrong = 0;

    void same(String what, long got, long due) {
        checked++;
        if (got != due) {
            tell(what + " answered " + got + ", due is " + due);
        }
    }

    void same(String what, double got, double due) {
        checked++;
        if (Double.doubleToLongBits(got) != Double.doubleToLongBits(due)) {
            tell(what + " answered " + got + ", due is " + due);
        }
    }

    void holds(String what, boolean so) {
        checked++;
        if (!so) {
            tell(what + " does not hold");
        }
    }

    /** The call throws exactly this exception, and the digest tells that nothing changed behind it. */
    void refuses(String what, HourglassTag x, Class<? extends RuntimeException> due, Runnable call) {
        checked++;
        long before = x.digest();
        Class<?> got = null;
        try {
            call.run();
        } catch (RuntimeException e) {
            got = e.getClass();
        }
        if (got != due) {
            tell(what + " threw " + got + ", due is " + due);
        }
        if (x.digest() != before) {
            tell(what + " threw, but changed something");
        }
    }

    void tell(String message) {
        wrong++;
        if (wrong <= 40) {
            System.out.println(message);
        }
    }

    void end() {
        System.out.println(wrong == 0 ? checked + " checks hold" : wrong + " of " + checked + " checks are wrong");
        if (wrong != 0) {
            System.exit(1);
        }
    }
}
