/** Counts the answers that are not as due, and tells each of them. */
final class Checks {
    private static final long LONGEST_MILLIS = 300_000;

    private String part = "";
    private int asked = 0;
    private int wrong = 0;

    Checks() {
        Thread watch = new Thread(Checks::endInTime);
        watch.setDaemon(true);
        watch.start();
    }

    /** A call that never ends must fail the test, not hold up all the others. */
    private static void endInTime() {
        try {
            Thread.sleep(LONGEST_MILLIS);
        } catch (InterruptedException e) {
            return;
        }
        System.out.println("the test did not end in " + LONGEST_MILLIS + " ms");
        Runtime.getRuntime().halt(1);
    }

    void part(String name) {
        part = name;
    }

    void due(String call, int got, int want) {
        asked++;
        if (got != want) {
            wrong++;
            System.out.println(part + ": " + call + " answered " + got + ", due is " + want);
        }
    }

    void due(String call, boolean got, boolean want) {
        due(call, got ? 1 : 0, want ? 1 : 0);
    }

    void finish(String test) {
        System.out.println(test + ": " + asked + " answers, " + wrong + " not as due");
        if (wrong != 0 || asked == 0) {
            System.exit(1);
        }
    }
}
