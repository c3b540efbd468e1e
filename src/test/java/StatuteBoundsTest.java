/** The boundary cases of promises 6 and 7: statute, force. */
public final class StatuteBoundsTest {
    private static final Due due = new Due("StatuteBoundsTest");
    private static final int MIN = Integer.MIN_VALUE;
    private static final int MAX = Integer.MAX_VALUE;
    private static final int[] TOPS = {1000, 10, 5, 1000, 8};
    private static final int[] AT_FIRST = {50, 2, 1, 10, 6};

    public static void main(String[] args) {
        for (int kind = 0; kind < 5; kind++) {
            values(kind);
            forceAtFirst(kind);
        }
        kinds();
        fromYears();
        statutesAreFull();
        forceYears();
        forceAsKnown();
        inForceFromItsYear();
        greatestYearThenToldLast();
        due.end();
    }

    private static Run run(String name) {
        return new Run(due, name);
    }

    /** Promise 6: out of bounds (each kind has its own). */
    private static void values(int kind) {
        String head = "statute(" + kind + ", 0, ";
        Run run = run("6: bounds of kind " + kind);
        run.refusedWith(head + "#)", -1, TOPS[kind] + 1, MIN, MAX);
        run.is(head + "0)", 1).is("force(" + kind + ", 0, 0)", 0);
        run.refusedWith(head + "#)", -1, TOPS[kind] + 1, MIN, MAX);
        run.is(head + TOPS[kind] + ")", 2).is("force(" + kind + ", 0, 0)", TOPS[kind]);
        run.is("count(5)", 2);
        for (int other = 0; other < 5; other++) {
            run.is("force(" + other + ", 60, 0)", other == kind ? TOPS[kind] : AT_FIRST[other]);
        }
        run.end();
    }

    /** Promise 7: else as at first; NONE: no such YEAR (0 .. 60), q (0 .. NOW). */
    private static void forceAtFirst(int kind) {
        String head = "force(" + kind + ", ";
        Run run = run("7: kind " + kind + " at first");
        run.is(head + "0, 0)", AT_FIRST[kind]).is(head + "60, 0)", AT_FIRST[kind]);
        run.refusedWith(head + "#, 0)", -1, 61, MIN, MAX).refusedWith(head + "0, #)", -1, 1, 40, MIN, MAX);
        run.done("year()").is(head + "0, 1)", AT_FIRST[kind]).is(head + "60, 1)", AT_FIRST[kind]);
        run.refusedWith(head + "60, #)", -1, 2, 40, MIN, MAX).end();
    }

    private static void kinds() {
        Run run = run("6, 7: kinds 0 .. 4");
        run.refusedWith("statute(#, 0, 1)", -1, 5, MIN, MAX).refusedWith("force(#, 0, 0)", -1, 5, MIN, MAX);
        run.is("statute(0, 0, 1)", 1).is("statute(4, 0, 1)", 2).is("force(0, 0, 0)", 1).is("force(4, 0, 0)", 1);
        run.refusedWith("statute(#, 0, 0)", -1, 5, MIN, MAX).is("count(5)", 2).end();
    }

    /** Promise 6: from a YEAR on (0 .. 60), whatever NOW is. */
    private static void fromYears() {
        Run run = run("6: from a YEAR on (0 .. 60)");
        run.refusedWith("statute(0, #, 7)", -1, 61, MIN, MAX);
        run.is("statute(0, 60, 8)", 1).is("force(0, 60, 0)", 8).is("force(0, 59, 0)", 50);
        run.is("statute(0, 0, 9)", 2).is("force(0, 0, 0)", 9).is("force(0, 59, 0)", 9).is("force(0, 60, 0)", 8);
        run.doneTimes(40, "year()").refusedWith("statute(0, #, 7)", -1, 61, MIN, MAX);
        run.is("statute(0, 60, 10)", 3).is("statute(0, 0, 11)", 4).is("force(0, 60, 40)", 10);
        run.is("force(0, 0, 40)", 11).is("force(0, 60, 39)", 8).is("force(0, 0, 39)", 9).end();
    }

    /** Promise 6: NONE: 100 were told. What was refused is not one of them. */
    private static void statutesAreFull() {
        Run run = run("6: 100 were told");
        run.refused("statute(0, 0, 1001)", "statute(5, 0, 1)", "statute(0, 61, 1)");
        for (int i = 1; i <= 99; i++) {
            run.is("statute(" + i % 5 + ", 0, " + i % 6 + ")", i);
        }
        run.refused("statute(2, 0, 6)").is("count(5)", 99).is("statute(2, 0, 5)", 100);
        run.refused("statute(2, 0, 1)", "statute(0, 0, 0)", "statute(4, 60, 8)").is("count(5)", 100);
        run.is("force(2, 0, 0)", 5).done("year()").refused("statute(2, 1, 1)").is("force(2, 1, 1)", 5).end();
    }

    /** Promise 7: in a YEAR (0 .. 60). */
    private static void forceYears() {
        Run run = run("7: in a YEAR (0 .. 60)");
        run.done("statute(1, 0, 10)", "statute(1, 60, 0)");
        run.is("force(1, 0, 0)", 10).is("force(1, 59, 0)", 10).is("force(1, 60, 0)", 0);
        run.refusedWith("force(1, #, 0)", -1, 61, MIN, MAX).end();
    }

    /** Terms: of those told in YEARS up to q. */
    private static void forceAsKnown() {
        Run run = run("7: as known in q");
        run.done("year()", "statute(3, 0, 1)", "statute(3, 0, 2)", "year()", "year()", "statute(3, 0, 3)");
        int[] want = {10, 2, 2, 3};
        for (int q = 0; q < want.length; q++) {
            run.is("force(3, 0, " + q + ")", want[q]).is("force(3, 60, " + q + ")", want[q]);
        }
        run.refusedWith("force(3, 0, #)", -1, 4).end();
    }

    /** Terms: from YEARS up to w. */
    private static void inForceFromItsYear() {
        Run run = run("7: from YEARS up to w");
        run.done("statute(2, 7, 5)");
        run.is("force(2, 6, 0)", 1).is("force(2, 7, 0)", 5).is("force(2, 8, 0)", 5).end();
    }

    /** Terms: the one from the greatest YEAR (of several the one told last). */
    private static void greatestYearThenToldLast() {
        Run run = run("7: the one from the greatest YEAR");
        run.done("statute(0, 5, 1)", "statute(0, 4, 2)").is("force(0, 5, 0)", 1).is("force(0, 4, 0)", 2);
        run.done("statute(0, 5, 3)").is("force(0, 5, 0)", 3).done("year()", "statute(0, 4, 4)");
        run.is("force(0, 5, 1)", 3).is("force(0, 4, 1)", 4).is("force(0, 4, 0)", 2);
        run.done("statute(0, 5, 5)").is("force(0, 60, 1)", 5).is("force(0, 60, 0)", 3).is("force(0, 3, 1)", 50).end();
    }
}
