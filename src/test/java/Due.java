/** Compares answers with those that are due, prints the wrong ones and ends with 1 if there were any. */
final class Due {
    private final String name;
    private int asked = 0;
    private int wrong = 0;
    private int open = 0;

    Due(String name) {
        this.name = name;
    }

    void is(String call, long got, long want) {
        asked++;
        if (got != want) {
            wrong++;
            System.out.println(name + ": " + call + " answered " + got + ", due is " + want);
        }
    }

    void is(String call, boolean got, boolean want) {
        is(call, got ? 1 : 0, want ? 1 : 0);
    }

    /** A run that is begun and not ended would go without its comparison with the twin. */
    void runBegins() {
        open++;
    }

    void runEnds() {
        open--;
    }

    void end() {
        if (open != 0) {
            is("runs that were not ended", open, 0);
        }
        System.out.println(name + ": " + asked + " answers, " + wrong + " wrong");
        if (asked == 0 || wrong > 0) {
            System.exit(1);
        }
    }
}
