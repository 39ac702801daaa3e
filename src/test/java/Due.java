/** Counts answers that are not as due, and tells them. */
final class Due {
    private int wrong;
    private String part = "";

    void part(String name) {
        part = name;
    }

    void is(String call, long got, long want) {
        if (got != want) {
            fail(call + " answered " + got + ", due is " + want);
        }
    }

    void isShare(String call, double got, double want) {
        if (Double.compare(got, want) != 0) {
            fail(call + " answered " + got + ", due is " + want);
        }
    }

    void isText(String call, String got, String want) {
        if (!got.equals(want)) {
            fail(call + " answered '" + got + "', due is '" + want + "'");
        }
    }

    void isTrue(String what, boolean holds) {
        if (!holds) {
            fail(what + " does not hold");
        }
    }

    void fail(String what) {
        wrong++;
        if (wrong <= 40) {
            System.out.println(part + ": " + what);
        }
    }

    /** The exit code by the form of a test. */
    void end(String test) {
        System.out.println(test + ": " + (wrong == 0 ? "all answers are as due" : wrong + " answers are not as due"));
        if (wrong != 0) {
            System.exit(1);
        }
    }
}
