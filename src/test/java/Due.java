/** Compares answers with those that are due, and ends the test with exit code 1 if one was not. */
final class Due {
    /** Far more than any test takes: a call that does not end is to fail the test, not to hang it. */
    private static final int MOST_SECONDS = 300;

    private int asked = 0;
    private int wrong = 0;

    Due() {
        Thread watch = new Thread(Due::failWhenLate);
        watch.setDaemon(true);
        watch.start();
    }

    private static void failWhenLate() {
        try {
            Thread.sleep(MOST_SECONDS * 1000L);
        } catch (InterruptedException end) {
            return;
        }
        System.out.println("a call did not end within " + MOST_SECONDS + " seconds");
        Runtime.getRuntime().halt(1);
    }

    void is(String call, long got, long want) {
        asked++;
        if (got == want) return;
        wrong++;
        System.out.println(call + " answered " + got + ", due is " + want);
    }

    int asked() {
        return asked;
    }

    void end(String test) {
        System.out.println(test + ": " + asked + " answers, " + wrong + " not as due");
        if (wrong != 0) System.exit(1);
    }
}
