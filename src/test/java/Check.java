/** Compares answers with those that are due, and ends a test with exit code 1 if one was wrong. */
final class Check {
    private static int wrong = 0;
    private static int done = 0;
    private static String heading = "";

    private Check() {
    }

    static void same(String call, long got, long due) {
        done++;
        if (got != due) {
            tell(call + " answered " + got + ", due is " + due);
        }
    }

    static void refused(String call, Class<? extends RuntimeException> due, Runnable body) {
        done++;
        String got = "nothing";
        try {
            body.run();
        } catch (RuntimeException e) {
            if (e.getClass() == due) {
                return;
            }
            got = e.getClass().getName();
        }
        tell(call + " threw " + got + ", due is " + due.getName());
    }

    /** The test of one sentence of the document, whose words are told with each wrong answer. */
    static void sentence(String words, Runnable test) {
        heading = "\"" + words + "\": ";
        int before = done;
        try {
            test.run();
        } catch (RuntimeException e) {
            tell("ended by " + e);
        }
        if (done == before) {
            tell("nothing was compared");
        }
        heading = "";
    }

    static void finish() {
        System.out.println(done + " answers, " + wrong + " of them wrong");
        if (wrong != 0) {
            System.exit(1);
        }
    }

    private static void tell(String text) {
        wrong++;
        System.out.println(heading + text);
    }
}
