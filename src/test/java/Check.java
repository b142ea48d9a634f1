/** Counts what went wrong in one test's main. */
final class Check {
    private static int asked = 0;
    private static int wrong = 0;

    private Check() {
    }

    static void same(String what, long got, long due) {
        asked++;
        if (got != due) {
            wrong++;
            System.out.println(what + ": got " + got + ", due is " + due);
        }
    }

    static void yes(String what, boolean got) {
        same(what, got ? 1 : 0, 1);
    }

    static void no(String what, boolean got) {
        same(what, got ? 1 : 0, 0);
    }

    /** The very class is asked for: a kind below it would have come from the machine, not from a throw. */
    static void refused(String what, Class<? extends RuntimeException> due, Runnable call) {
        asked++;
        String got = "nothing";
        try {
            call.run();
        } catch (RuntimeException e) {
            got = e.getClass().getName();
        }
        if (!got.equals(due.getName())) {
            wrong++;
            System.out.println(what + ": threw " + got + ", due is " + due.getName());
        }
    }

    static void noIndex(String what, Runnable call) {
        refused(what, IndexOutOfBoundsException.class, call);
    }

    static void noArgument(String what, Runnable call) {
        refused(what, IllegalArgumentException.class, call);
    }

    static void noState(String what, Runnable call) {
        refused(what, IllegalStateException.class, call);
    }

    static void end(String name) {
        System.out.println(name + ": " + asked + " asked, " + wrong + " wrong");
        if (wrong > 0 || asked == 0) {
            System.exit(1);
        }
    }
}
