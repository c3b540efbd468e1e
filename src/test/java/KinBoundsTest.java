/** The boundary cases of promises 23 to 25: ways, touched, buyers. */
public final class KinBoundsTest {
    private static final Due due = new Due("KinBoundsTest");
    private static final int MIN = Integer.MIN_VALUE;
    private static final int MAX = Integer.MAX_VALUE;

    public static void main(String[] args) {
        waysOfOthers();
        waysToItselfAndBack();
        waysAtMost();
        touchedForOthers();
        touchedWithout();
        touchedOnceOnly();
        touchedByTwoHundred();
        touchedByALongRow();
        buyersOfOthers();
        buyersAsBits();
        buyersOfKin();
        due.end();
    }

    private static Run run(String name) {
        return new Run(due, name);
    }

    /** Tubes 0 and 1, field lots 2 of 0 and 3 of 1, 4 mixed of 2 and 3, 5 sown of 0. */
    private static Run withKin(String name) {
        Run run = run(name).done("field(0, 0, 1, 1)", "field(100, 0, 101, 1)", "field(200, 0, 201, 1)", "tube(1)");
        run.done("tube(1)", "sow(0, 0, 1)", "sow(1, 1, 1)", "harvest(2, 50)", "harvest(3, 50)", "mix(2, 9, 3, 9)");
        return run.done("sow(0, 2, 1)").is("count(2)", 6);
    }

    private static void row(Run run, int lot, int row, int... want) {
        String head = "touched(" + lot + ", " + row + ", ";
        for (int i = 0; i < want.length; i++) {
            run.is(head + i + ")", want[i]);
        }
        run.refusedWith(head + "#)", -1, want.length, want.length + 1, 199, 200, MIN, MAX);
    }

    /** Promise 23: 0 for others. */
    private static void waysOfOthers() {
        Run run = run("23: 0 for others").refused("ways(0, 0)").done("tube(1)", "tube(1)", "mix(0, 1, 1, 1)");
        run.refusedWith("ways(#, 0)", -1, 3, 200, MIN, MAX).refusedWith("ways(2, #)", -1, 3, 200, MIN, MAX);
        run.refusedWith("ways(#, #)", -1, 3, 200, MIN, MAX).is("ways(2, 0)", 1).is("ways(2, 1)", 1).end();
    }

    /** WAYS: x to itself 1; none leads to what came of it. */
    private static void waysToItselfAndBack() {
        Run run = withKin("23: x to itself 1");
        for (int lot = 0; lot < 6; lot++) {
            run.is("ways(" + lot + ", " + lot + ")", 1);
        }
        run.is("ways(4, 0)", 1).is("ways(4, 1)", 1).is("ways(0, 4)", 0).is("ways(2, 3)", 0).is("ways(5, 2)", 0);
        run.is("mix(4, 1, 2, 1)", 6).is("ways(6, 2)", 2).is("ways(6, 0)", 2).is("ways(6, 3)", 1).end();
    }

    /** WAYS: 1,000,000 at most: 999,999, then 1,000,000, then one more, and twice as many. */
    private static void waysAtMost() {
        Run run = run("23: 1,000,000 at most").done("field(0, 0, 1, 1)", "field(2, 0, 3, 1)", "tube(1)", "tube(1)");
        run.done("sow(0, 0, 1)", "sow(1, 1, 1)", "harvest(2, 100000)", "harvest(3, 100000)");
        // Two lots with as many ways to lot 2 each make two with twice as many, and keep some grams for the sum.
        run.is("mix(2, 40000, 3, 40000)", 4);
        int[] twos = new int[20];
        int one = 2;
        int other = 4;
        int half = 25000;
        for (int power = 0; power < 20; power++) {
            twos[power] = one;
            run.is("ways(" + one + ", 2)", 1 << power).is("ways(" + other + ", 2)", 1 << power);
            String mix = "mix(" + one + ", " + half + ", " + other + ", " + half + ")";
            run.done(mix, mix);
            half -= 100;
            other = 6 + 2 * power;
            one = other - 1;
        }
        run.is("ways(" + one + ", 2)", 1000000).is("ways(" + other + ", 2)", 1000000);
        int sum = twos[19];
        int lots = 45;
        for (int power : new int[] {18, 17, 16, 14, 9, 5, 4, 3, 2, 1, 0}) {
            run.is("mix(" + sum + ", 1, " + twos[power] + ", 1)", lots);
            sum = lots++;
        }
        run.is("ways(" + sum + ", 2)", 999999).is("mix(" + sum + ", 1, 2, 1)", lots).is("ways(" + lots + ", 2)", 1000000);
        run.is("mix(" + lots + ", 1, 2, 1)", lots + 1).is("ways(" + (lots + 1) + ", 2)", 1000000);
        run.is("mix(" + lots + ", 1, " + (lots + 1) + ", 1)", lots + 2).is("ways(" + (lots + 2) + ", 2)", 1000000);
        run.is("ways(" + (lots + 2) + ", 0)", 1000000).is("ways(2, " + lots + ")", 0).end();
    }

    /** Promise 24: NONE for others. */
    private static void touchedForOthers() {
        Run run = withKin("24: for others");
        run.refusedWith("touched(#, 0, 0)", -1, 6, 200, MIN, MAX).refusedWith("touched(#, 1, 0)", -1, 6, MIN, MAX);
        run.refusedWith("touched(#, 2, 0)", -1, 6, MIN, MAX).refusedWith("touched(2, #, 0)", -1, 3, MIN, MAX);
        run.is("touched(2, 0, 0)", 2).is("touched(2, 1, 0)", 0).is("touched(2, 2, 0)", 5).end();
    }

    /** Promise 24: NONE without. */
    private static void touchedWithout() {
        Run run = withKin("24: without");
        row(run, 0, 0, 0, 2, 4, 5);
        row(run, 0, 1);
        row(run, 0, 2);
        row(run, 2, 0, 2, 4);
        row(run, 2, 1, 0);
        row(run, 2, 2, 5);
        row(run, 3, 0, 3, 4);
        row(run, 3, 1, 1);
        row(run, 3, 2);
        row(run, 4, 0, 4);
        row(run, 4, 1, 0, 1, 2, 3);
        row(run, 4, 2);
        row(run, 5, 0, 5);
        row(run, 5, 1, 0);
        row(run, 5, 2, 2, 4);
        run.end();
    }

    /** TOUCHED: the others, all others: no LOT is in two rows, though several ways lead to it. */
    private static void touchedOnceOnly() {
        Run run = withKin("24: the others").is("mix(4, 1, 2, 1)", 6).is("mix(6, 1, 4, 1)", 7).is("mix(2, 1, 3, 1)", 8);
        row(run, 6, 0, 6, 7);
        row(run, 6, 1, 0, 1, 2, 3, 4);
        row(run, 6, 2, 8);
        row(run, 7, 0, 7);
        row(run, 7, 1, 0, 1, 2, 3, 4, 6);
        row(run, 7, 2);
        run.end();
    }

    /** TOUCHED of as many LOTS as there may be: all are OF lot 0; all but lot 2 and its mother are akin to it. */
    private static void touchedByTwoHundred() {
        Run run = run("24: 200 LOTS, sown").done("tube(1)");
        for (int field = 0; field < 40; field++) {
            run.done("field(" + field + ", 0, " + (field + 1) + ", 1)");
        }
        for (int lot = 1; lot < 200; lot++) {
            if (lot % 40 == 1 && lot > 1) {
                run.done("year()");
            }
            run.is("sow(" + (lot <= 100 ? 0 : 1) + ", " + (lot - 1) % 40 + ", 1)", lot);
            if (lot == 1) {
                run.done("harvest(1, 100000)");
            }
        }
        run.is("touched(0, 0, 0)", 0).is("touched(0, 0, 199)", 199).refused("touched(0, 0, 200)", "touched(0, 1, 0)");
        run.is("touched(2, 2, 0)", 1).is("touched(2, 2, 197)", 199).refused("touched(2, 2, 198)", "touched(2, 0, 1)");
        run.is("touched(2, 1, 0)", 0).refused("touched(2, 1, 1)").is("ways(199, 0)", 1).end();
    }

    /** TOUCHED of the longest row of mothers, which is not to go too deep. */
    private static void touchedByALongRow() {
        Run run = run("24: 200 LOTS, mixed").done("tube(1)", "tube(1)");
        for (int lot = 2; lot < 200; lot++) {
            run.is("mix(" + (lot - 1) + ", 1, " + (lot - 2) + ", 1)", lot);
        }
        run.is("touched(199, 1, 0)", 0).is("touched(199, 1, 198)", 198).refused("touched(199, 1, 199)");
        run.is("touched(199, 0, 0)", 199).refused("touched(199, 0, 1)", "touched(199, 2, 0)");
        run.is("touched(1, 0, 0)", 1).is("touched(1, 0, 198)", 199).refused("touched(1, 0, 199)");
        run.is("ways(199, 0)", 1000000).is("judge(199, 0)", 0).done("prove(0)").is("why(199, 0)", 7);
        run.is("count(7)", 199).end();
    }

    /** Promise 25: 0 for others. */
    private static void buyersOfOthers() {
        Run run = run("25: 0 for others").refused("buyers(0)").done("tube(1)", "tube(1)", "bag(0, 1)", "sell(0, 0)");
        run.refusedWith("buyers(#)", -1, 2, 200, MIN, MAX).is("buyers(0)", 1).is("buyers(1)", 0).end();
    }

    /** Promise 25: BUYERS (0 .. 19), as bits. */
    private static void buyersAsBits() {
        Run run = run("25: as bits").done("tube(1)").is("buyers(0)", 0);
        for (int buyer = 19; buyer >= 0; buyer--) {
            int bag = 19 - buyer;
            run.is("bag(0, 1)", bag).is("sell(" + bag + ", " + buyer + ")", 1).is("buyers(0)", (1 << 20) - (1 << buyer));
        }
        run.done("bag(0, 1)", "sell(20, 19)").is("buyers(0)", (1 << 20) - 1).done("open(0)", "prove(0)");
        run.is("buyers(0)", (1 << 20) - 1).end();
    }

    /** Promise 25: of BAGS of LOTS that are OF a LOT: its own and all that came of it, none that it came from. */
    private static void buyersOfKin() {
        Run run = withKin("25: OF a LOT").done("look(2, 1, 0)", "look(3, 1, 0)", "bag(0, 1)", "bag(2, 1)", "bag(4, 1)");
        run.done("bag(3, 1)", "sell(0, 0)", "sell(1, 1)", "sell(2, 2)").is("buyers(0)", 7).is("buyers(2)", 6);
        run.is("buyers(4)", 4).is("buyers(1)", 4).is("buyers(3)", 4).is("buyers(5)", 0).done("open(3)").refused("sell(3, 3)");
        run.is("buyers(3)", 4).done("seal(3)", "sell(3, 3)").is("buyers(3)", 12).is("buyers(1)", 12).is("buyers(0)", 7).end();
    }
}
