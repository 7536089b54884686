/** Counts and prints what is not as it is due. */
final class Check {
    private static int wrong = 0;
    private static int done = 0;

    private Check() {
    }

    static void same(String what, long got, long due) {
        done++;
        if (got != due) {
            wrong++;
            System.out.println(what + " answered " + got + ", due is " + due);
        }
    }

    static void same(String what, boolean got, boolean due) {
        same(what, got ? 1 : 0, due ? 1 : 0);
    }

    static void noIndex(String what, Runnable call) {
        fails(what, IndexOutOfBoundsException.class, call);
    }

    static void noState(String what, Runnable call) {
        fails(what, IllegalStateException.class, call);
    }

    static void noArgument(String what, Runnable call) {
        fails(what, IllegalArgumentException.class, call);
    }

    private static void fails(String what, Class<? extends RuntimeException> due, Runnable call) {
        done++;
        String got = "nothing";
        try {
            call.run();
        } catch (RuntimeException e) {
            if (e.getClass() == due) {
                return;
            }
            got = e.getClass().getName();
        }
        wrong++;
        System.out.println(what + " threw " + got + ", due is " + due.getName());
    }

    /** Ends the test: with exit code 1 if something was wrong. */
    static void end() {
        if (wrong > 0 || done == 0) {
            System.out.println(wrong + " of " + done + " checks are not as due");
            System.exit(1);
        }
    }
}
