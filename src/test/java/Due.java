/** Compares answers with what is due, prints those that differ, and ends a test. */
final class Due {
    private final String test;
    private String part = "";
    private int checked;
    private int wrong;

    Due(String test) {
        this.test = test;
    }

    void begin(String name) {
        part = name;
    }

    void is(String call, long got, long want) {
        checked++;
        if (got != want) {
            wrong++;
            System.out.println(test + ", " + part + ": " + call + " answered " + got + ", due is " + want);
        }
    }

    void is(String call, boolean got, boolean want) {
        is(call, got ? 1 : 0, want ? 1 : 0);
    }

    boolean hasWrong() {
        return wrong > 0;
    }

    void end() {
        System.out.println(test + ": " + checked + " answers, " + wrong + " wrong");
        if (checked == 0 || wrong > 0) {
            System.exit(1);
        }
    }
}
