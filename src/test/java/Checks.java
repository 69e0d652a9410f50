/** Counts what a test finds right and wrong, and prints what is wrong. */
final class Checks {
    /** A call whose answer is compared. */
    interface Call {
        Object answer();
    }

    private int right = 0;
    private int wrong = 0;
    private String part = "";

    void begin(String newPart) {
        part = newPart;
    }

    void isTrue(String what, boolean holds) {
        if (holds) {
            right++;
        } else {
            wrong++;
            System.out.println(part + ": " + what);
        }
    }

    /** Numbers, chars and booleans are compared by their boxes, so the type of the answer counts too. */
    void same(String what, Object got, Object due) {
        isTrue(what + " answered " + got + ", due is " + due, due.equals(got));
    }

    /** The exception must be of the very class, so those that the machine throws by itself do not pass. */
    void fails(String what, Class<? extends RuntimeException> due, Call call) {
        String got;
        try {
            got = "answered " + call.answer();
        } catch (RuntimeException e) {
            if (e.getClass() == due) {
                right++;
                return;
            }
            got = "threw " + e.getClass().getSimpleName();
        }
        isTrue(what + " " + got + ", due is " + due.getSimpleName(), false);
    }

    /** Prints the counts and ends the program with 1 if something was wrong. */
    void end() {
        System.out.println(right + " passed, " + wrong + " failed");
        if (wrong != 0) {
            System.exit(1);
        }
    }
}
