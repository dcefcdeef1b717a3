/** Counts the answers that are not as due and ends the test's process accordingly. */
final class Check {
    private static final int MOST_PRINTED = 20;
    private static int wrong;
    private static int seen;

    private Check() {
    }

    static void same(String what, long got, long want) {
        seen++;
        if (got != want) {
            report(what + " answered " + got + ", due is " + want);
        }
    }

    static void same(String what, String got, String want) {
        seen++;
        if (!got.equals(want)) {
            report(what + " answered\n  " + got + ", due is\n  " + want);
        }
    }

    /** An answer that was as due, and was compared elsewhere. */
    static void seen() {
        seen++;
    }

    static void yes(String what, boolean got) {
        same(what, got ? 1 : 0, 1);
    }

    static void no(String what, boolean got) {
        same(what, got ? 1 : 0, 0);
    }

    static void end() {
        if (wrong > 0) {
            System.out.println(wrong + " of " + seen + " answers are not as due");
            System.exit(1);
        }
    }

    private static void report(String text) {
        wrong++;
        if (wrong <= MOST_PRINTED) {
            System.out.println(text);
        }
    }
}
