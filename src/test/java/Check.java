/** Counts what went wrong in one test's main, sentence by sentence of the document. */
final class Check {
    private static int asked = 0;
    private static int wrong = 0;
    private static int sentences = 0;
    private static int askedBefore = 0;
    private static String sentence = "";

    private Check() {
    }

    /** Runs tests one by one: what one of them throws ends that one alone. */
    static void each(Runnable... tests) {
        for (Runnable test : tests) {
            try {
                test.run();
            } catch (RuntimeException e) {
                isWrong("the test threw " + e);
            }
        }
    }

    /** Begins the test of a sentence of the document, which is quoted; what goes wrong is told with it. */
    static void sentence(String quoted) {
        endSentence();
        sentences++;
        sentence = quoted;
        askedBefore = asked;
    }

    /** A sentence's test that asks nothing would pass whatever the class does. */
    private static void endSentence() {
        if (sentences > 0 && asked == askedBefore) {
            isWrong("nothing was asked");
        }
    }

    private static void isWrong(String text) {
        wrong++;
        System.out.println(sentence.isEmpty() ? text : text + "  [" + sentence + "]");
    }

    static void same(String what, long got, long due) {
        asked++;
        if (got != due) {
            isWrong(what + ": got " + got + ", due is " + due);
        }
    }

    static void yes(String what, boolean got) {
        same(what, got ? 1 : 0, 1);
    }

    static void no(String what, boolean got) {
        same(what, got ? 1 : 0, 0);
    }

    /** The very class is asked for: a kind below it would have come from the machine, not from a throw. */
    static void refused(String what, Class<? extends RuntimeException> due, Runnable call) {
        asked++;
        String got = "nothing";
        try {
            call.run();
        } catch (RuntimeException e) {
            got = e.getClass().getName();
        }
        if (!got.equals(due.getName())) {
            isWrong(what + ": threw " + got + ", due is " + due.getName());
        }
    }

    static void noIndex(String what, Runnable call) {
        refused(what, IndexOutOfBoundsException.class, call);
    }

    static void noArgument(String what, Runnable call) {
        refused(what, IllegalArgumentException.class, call);
    }

    static void noState(String what, Runnable call) {
        refused(what, IllegalStateException.class, call);
    }

    static void end(String name) {
        endSentence();
        System.out.println(name + ": " + sentences + " sentences, " + asked + " asked, " + wrong + " wrong");
        if (wrong > 0 || asked == 0) {
            System.exit(1);
        }
    }
}
