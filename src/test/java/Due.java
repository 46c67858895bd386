/** Compares answers with what is due, prints those that differ, and ends a test. */
final class Due {
    /** A fault may make millions of answers wrong; the first ones tell enough. */
    private static final int PRINTED = 100;
    /** Far above what any test needs: one that takes longer has met a call that does not end. */
    private static final int SECONDS = 300;

    private final String test;
    private volatile String part = "";
    private int checked;
    private int wrong;

    Due(String test) {
        this.test = test;
        Thread watch = new Thread(this::endLate);
        watch.setDaemon(true);
        watch.start();
    }

    private void endLate() {
        try {
            Thread.sleep(1000L * SECONDS);
        } catch (InterruptedException e) {
            return;
        }
        System.out.println(test + ", " + part + ": a call does not end");
        Runtime.getRuntime().halt(1);
    }

    void begin(String name) {
        part = name;
    }

    void is(String call, long got, long want) {
        checked++;
        if (got != want) {
            wrong++;
            if (wrong <= PRINTED) {
                System.out.println(test + ", " + part + ": " + call + " answered " + got + ", due is " + want);
            }
        }
    }

    void is(String call, boolean got, boolean want) {
        is(call, got ? 1 : 0, want ? 1 : 0);
    }

    boolean hasWrong() {
        return wrong > 0;
    }

    void end() {
        System.out.println(test + ": " + checked + " answers, " + wrong + " wrong");
        if (checked == 0 || wrong > 0) {
            System.exit(1);
        }
    }
}
