/** The boundary cases of promises 19 to 22: prove, year, judge, why; and those of CLASS and WHY. */
public final class ClassBoundsTest {
    private static final Due due = new Due("ClassBoundsTest");
    private static final int MIN = Integer.MIN_VALUE;
    private static final int MAX = Integer.MAX_VALUE;

    public static void main(String[] args) {
        proveNoSuchLot();
        proveTwice();
        theLastYear();
        judgedAsKnownInYears();
        judgedInTheLastYear();
        toldFalseUpToQ();
        mixedTakesTheGreater();
        nearerThanDistance();
        nearerOverACorner();
        nearerThanNothing();
        nearerThanAThousand();
        ownFieldIsNoNeighbour();
        neighboursCropAndYear();
        neighboursMotherNotAbove();
        yearsSince();
        yearsSinceAtItsBounds();
        yearsSinceByALot();
        looksWanted();
        looksToldUpToQ();
        illsNotMore();
        illsAtTheirBounds();
        illsOfManyLooks();
        theLastClass();
        theLastClassAtItsBounds();
        statutesInForceInItsYear();
        whyTheFirstThatHolds();
        due.end();
    }

    private static Run run(String name) {
        return new Run(due, name);
    }

    private static void verdict(Run run, int lot, int q, int rank, int reason) {
        run.is("judge(" + lot + ", " + q + ")", rank).is("why(" + lot + ", " + q + ")", reason);
    }

    private static void noVerdict(Run run, int lot, int q) {
        run.refused("judge(" + lot + ", " + q + ")", "why(" + lot + ", " + q + ")");
    }

    /** A field, and a second one by this text; tubes 0 and 1 of crop 1; no LOOKS are wanted. */
    private static Run withFields(String name, String second) {
        Run run = run(name).done("field(100, 100, 110, 110)", "field(" + second + ")", "tube(1)", "tube(1)");
        return run.done("statute(2, 0, 0)");
    }

    private static Run withFarFields(String name) {
        return withFields(name, "900, 900, 910, 910");
    }

    /** Promise 19: False: no such one. */
    private static void proveNoSuchLot() {
        Run run = run("19: no such one").refused("prove(0)").done("tube(1)", "tube(1)");
        run.refusedWith("prove(#)", -1, 2, 200, MIN, MAX).is("prove(1)", 1).is("prove(0)", 1).is("count(7)", 2).end();
    }

    /** Promise 19: False: it is (told FALSE). */
    private static void proveTwice() {
        Run run = run("19: it is").done("tube(1)", "tube(1)", "year()").is("prove(0)", 1).refused("prove(0)");
        run.done("year()").refused("prove(0)").is("told(0, 13)", 1).refused("told(1, 13)").is("count(7)", 1);
        run.is("prove(1)", 1).is("told(1, 13)", 2).end();
    }

    /** Promise 20: NONE: it is 40. */
    private static void theLastYear() {
        Run run = run("20: it is 40");
        for (int year = 1; year <= 40; year++) {
            run.is("count(0)", year - 1).is("year()", year);
        }
        run.refused("year()", "year()").is("count(0)", 40).is("tube(1)", 0).is("told(0, 3)", 40).refused("year()");
        run.is("prove(0)", 1).is("told(0, 13)", 40).end();
    }

    /** Promises 21, 22: from the YEAR in which it came, to NOW. NONE: no such. */
    private static void judgedAsKnownInYears() {
        Run run = run("21, 22: from its YEAR, to NOW").done("field(0, 0, 1, 1)", "year()", "year()", "tube(1)");
        run.done("sow(0, 0, 1)", "tube(1)", "mix(0, 1, 2, 1)", "year()");
        int[][] want = {{0, 0}, {9, 3}, {0, 0}, {0, 0}};
        for (int lot = 0; lot < 4; lot++) {
            verdict(run, lot, 2, want[lot][0], want[lot][1]);
            verdict(run, lot, 3, want[lot][0], want[lot][1]);
            for (int q : new int[] {-1, 0, 1, 4, 40, MIN, MAX}) {
                noVerdict(run, lot, q);
            }
        }
        for (int lot : new int[] {-1, 4, 200, MIN, MAX}) {
            noVerdict(run, lot, 2);
            noVerdict(run, lot, 3);
        }
        run.end();
    }

    private static void judgedInTheLastYear() {
        Run run = run("21, 22: to NOW, 40").done("tube(1)").doneTimes(40, "year()").done("tube(1)");
        verdict(run, 0, 0, 0, 0);
        verdict(run, 0, 40, 0, 0);
        verdict(run, 1, 40, 0, 0);
        noVerdict(run, 1, 39);
        noVerdict(run, 0, 41);
        noVerdict(run, 1, 41);
        run.end();
    }

    /** CLASS: told FALSE in a YEAR up to q: 9, WHY 5. */
    private static void toldFalseUpToQ() {
        Run run = withFarFields("CLASS: told FALSE up to q").done("sow(0, 0, 1)", "mix(0, 1, 1, 1)", "year()", "year()");
        run.done("prove(1)", "prove(2)", "prove(3)", "year()");
        int[] before = {0, 0, 1, 0};
        for (int lot = 1; lot <= 3; lot++) {
            verdict(run, lot, 0, before[lot], 0);
            verdict(run, lot, 1, before[lot], 0);
            verdict(run, lot, 2, 9, 5);
            verdict(run, lot, 3, 9, 5);
        }
        verdict(run, 0, 3, 0, 0);
        run.is("count(7)", 3).end();
    }

    /** CLASS: MIXED: the greater of its mothers' CLASSES (9: WHY 7). */
    private static void mixedTakesTheGreater() {
        Run run = withFarFields("CLASS: the greater").done("sow(0, 0, 1)", "harvest(2, 50)");
        run.is("mix(2, 1, 1, 1)", 3).is("mix(1, 1, 2, 1)", 4).is("mix(3, 1, 4, 1)", 5).is("mix(0, 1, 1, 1)", 6);
        verdict(run, 3, 0, 1, 0);
        verdict(run, 4, 0, 1, 0);
        verdict(run, 5, 0, 1, 0);
        verdict(run, 6, 0, 0, 0);
        run.done("year()", "statute(4, 0, 0)");
        verdict(run, 2, 1, 9, 6);
        verdict(run, 3, 1, 9, 7);
        verdict(run, 4, 1, 9, 7);
        verdict(run, 5, 1, 9, 7);
        verdict(run, 6, 1, 0, 0);
        verdict(run, 5, 0, 1, 0);
        run.end();
    }

    /** CLASS: nearer than DISTANCE: NEAR less than its square (WHY 1). */
    private static void nearerThanDistance() {
        Run run = withFields("CLASS: DISTANCE", "160, 100, 170, 110").done("sow(0, 0, 1)", "stand(1, 0, 1)");
        verdict(run, 2, 0, 1, 0);
        run.done("statute(0, 0, 51)");
        verdict(run, 2, 0, 9, 1);
        run.done("statute(0, 0, 49)");
        verdict(run, 2, 0, 1, 0);
        run.end();
        Run nearer = withFields("CLASS: DISTANCE, nearer by 1", "159, 100, 170, 110").done("sow(0, 0, 1)");
        verdict(nearer, 2, 0, 1, 0);
        nearer.done("stand(1, 0, 1)");
        verdict(nearer, 2, 0, 9, 1);
        nearer.end();
    }

    private static void nearerOverACorner() {
        Run run = withFields("CLASS: DISTANCE over a corner", "140, 150, 170, 170").done("sow(0, 0, 1)", "stand(1, 0, 1)");
        run.is("near(0, 1)", 2500);
        verdict(run, 2, 0, 1, 0);
        run.end();
        Run nearer = withFields("CLASS: nearer over a corner", "140, 149, 170, 170").done("sow(0, 0, 1)");
        nearer.done("stand(1, 0, 1)").is("near(0, 1)", 2421);
        verdict(nearer, 2, 0, 9, 1);
        nearer.done("statute(0, 0, 49)");
        verdict(nearer, 2, 0, 1, 0);
        nearer.end();
    }

    /** DISTANCE 0: no FIELD is nearer, not even one that overlaps. DISTANCE 1: one that touches is. */
    private static void nearerThanNothing() {
        for (String box : new String[] {"100, 100, 110, 110", "105, 105, 120, 120", "110, 110, 111, 111"}) {
            Run run = withFields("CLASS: DISTANCE 0 and 1, " + box, box).done("sow(0, 0, 1)", "stand(1, 0, 1)");
            verdict(run, 2, 0, 9, 1);
            run.done("statute(0, 0, 0)");
            verdict(run, 2, 0, 1, 0);
            run.done("statute(0, 0, 1)");
            verdict(run, 2, 0, 9, 1);
            run.end();
        }
        Run apart = withFields("CLASS: DISTANCE 1 and 2", "111, 100, 120, 110").done("sow(0, 0, 1)", "stand(1, 0, 1)");
        apart.done("statute(0, 0, 1)");
        verdict(apart, 2, 0, 1, 0);
        apart.done("statute(0, 0, 2)");
        verdict(apart, 2, 0, 9, 1);
        apart.end();
    }

    private static void nearerThanAThousand() {
        Run run = run("CLASS: DISTANCE 1,000").done("field(0, 0, 1, 1)", "field(999, 0, 1000, 1)", "tube(1)");
        run.done("statute(2, 0, 0)", "sow(0, 0, 1)", "stand(1, 0, 1)", "statute(0, 0, 998)");
        verdict(run, 1, 0, 1, 0);
        run.done("statute(0, 0, 1000)");
        verdict(run, 1, 0, 9, 1);
        run.end();
        Run corner = run("CLASS: DISTANCE 1,000 over a corner").done("field(0, 0, 1, 1)", "field(999, 999, 1000, 1000)");
        corner.done("tube(1)", "statute(2, 0, 0)", "sow(0, 0, 1)", "stand(1, 0, 1)", "statute(0, 0, 1000)");
        verdict(corner, 1, 0, 1, 0);
        corner.end();
    }

    /** CLASS: another FIELD. */
    private static void ownFieldIsNoNeighbour() {
        Run run = withFarFields("CLASS: another FIELD").done("statute(0, 0, 1000)", "stand(0, 0, 1)", "sow(0, 0, 1)");
        run.done("stand(0, 0, 1)");
        verdict(run, 2, 0, 1, 0);
        run.end();
    }

    /** CLASS: that STANDS with its crop in its YEAR, as known in q. */
    private static void neighboursCropAndYear() {
        Run run = withFields("CLASS: its crop in its YEAR", "120, 100, 130, 110").done("year()", "sow(0, 0, 1)");
        run.done("stand(1, 1, 2)", "stand(1, 0, 1)", "year()", "stand(1, 2, 1)");
        verdict(run, 2, 1, 1, 0);
        verdict(run, 2, 2, 1, 0);
        run.done("stand(1, 1, 1)");
        verdict(run, 2, 1, 1, 0);
        verdict(run, 2, 2, 9, 1);
        run.done("year()", "stand(1, 1, 0)");
        verdict(run, 2, 2, 9, 1);
        verdict(run, 2, 3, 1, 0);
        run.end();
    }

    /** CLASS: no LOT whose mother has a CLASS not above its own mother's; crops that were told count as worse. */
    private static void neighboursMotherNotAbove() {
        Run run = withFields("CLASS: its mother's", "120, 100, 130, 110").done("statute(1, 0, 0)", "sow(0, 0, 1)");
        run.done("harvest(2, 100)", "year()").is("sow(2, 0, 1)", 3).is("sow(0, 1, 1)", 4);
        verdict(run, 3, 1, 2, 0);
        verdict(run, 4, 1, 9, 1);
        run.done("year()").is("sow(2, 0, 1)", 5).is("sow(2, 1, 1)", 6);
        verdict(run, 5, 2, 2, 0);
        verdict(run, 6, 2, 2, 0);
        run.done("year()", "stand(1, 3, 1)").is("sow(1, 0, 1)", 7);
        verdict(run, 7, 3, 9, 1);
        run.is("sow(0, 1, 1)", 8);
        verdict(run, 7, 3, 1, 0);
        verdict(run, 8, 3, 1, 0);
        run.done("year()", "prove(0)");
        verdict(run, 7, 3, 1, 0);
        verdict(run, 7, 4, 9, 1);
        verdict(run, 8, 4, 9, 7);
        run.end();
    }

    /** CLASS: in one of the YEARS SINCE YEARS ahead of its YEAR (WHY 2). */
    private static void yearsSince() {
        Run run = withFarFields("CLASS: YEARS SINCE").doneTimes(5, "year()").done("sow(0, 0, 1)", "stand(0, 2, 1)");
        run.done("stand(0, 4, 2)");
        verdict(run, 2, 5, 1, 0);
        run.done("statute(1, 0, 3)");
        verdict(run, 2, 5, 9, 2);
        run.done("statute(1, 0, 2)", "year()", "stand(0, 3, 1)");
        verdict(run, 2, 5, 1, 0);
        verdict(run, 2, 6, 9, 2);
        run.done("statute(1, 0, 1)");
        verdict(run, 2, 6, 1, 0);
        run.done("stand(0, 4, 1)");
        verdict(run, 2, 6, 9, 2);
        run.done("stand(0, 4, 0)", "stand(0, 6, 1)", "stand(0, 5, 1)");
        verdict(run, 2, 6, 1, 0);
        run.end();
    }

    private static void yearsSinceAtItsBounds() {
        Run run = withFarFields("CLASS: YEARS SINCE 0 and 10").doneTimes(11, "year()").done("stand(0, 0, 1)");
        run.done("statute(1, 0, 10)", "sow(0, 0, 1)");
        verdict(run, 2, 11, 1, 0);
        run.done("stand(0, 1, 1)");
        verdict(run, 2, 11, 9, 2);
        for (int year = 2; year <= 10; year++) {
            run.done("stand(0, " + year + ", 1)");
        }
        run.done("statute(1, 0, 0)");
        verdict(run, 2, 11, 1, 0);
        run.end();
        Run first = withFarFields("CLASS: YEARS SINCE 10 in YEAR 0").done("statute(1, 0, 10)", "stand(0, 0, 1)");
        first.done("sow(0, 0, 1)");
        verdict(first, 2, 0, 1, 0);
        first.end();
    }

    private static void yearsSinceByALot() {
        Run run = withFarFields("CLASS: YEARS SINCE a LOT").done("sow(0, 0, 1)", "year()", "year()", "sow(1, 0, 1)");
        run.done("year()", "sow(1, 1, 1)", "tube(2)", "year()", "year()", "sow(5, 0, 1)");
        verdict(run, 2, 0, 1, 0);
        verdict(run, 3, 2, 9, 2);
        verdict(run, 4, 3, 1, 0);
        verdict(run, 6, 5, 1, 0);
        run.is("sow(1, 1, 1)", 7);
        verdict(run, 7, 5, 9, 2);
        run.end();
    }

    /** CLASS: if fewer LOOKS than wanted were told (WHY 3). */
    private static void looksWanted() {
        Run run = withFarFields("CLASS: LOOKS wanted").done("sow(0, 0, 1)");
        verdict(run, 2, 0, 1, 0);
        for (int wanted = 1; wanted <= 5; wanted++) {
            run.done("statute(2, 0, " + wanted + ")");
            verdict(run, 2, 0, 9, 3);
            run.is("look(2, 10, 0)", wanted);
            verdict(run, 2, 0, 1, 0);
        }
        run.is("look(2, 10, 0)", 6);
        verdict(run, 2, 0, 1, 0);
        run.end();
    }

    private static void looksToldUpToQ() {
        Run run = withFarFields("CLASS: LOOKS up to q").done("sow(0, 0, 1)", "statute(2, 0, 2)", "look(2, 10, 0)");
        run.done("year()", "year()", "look(2, 10, 0)", "year()");
        verdict(run, 2, 0, 9, 3);
        verdict(run, 2, 1, 9, 3);
        verdict(run, 2, 2, 1, 0);
        verdict(run, 2, 3, 1, 0);
        run.is("told(2, 12)", 2).end();
    }

    /** CLASS: if a thousand times the ill plants are more than ILLS times the plants (WHY 4). */
    private static void illsNotMore() {
        Run run = withFarFields("CLASS: ILLS").done("sow(0, 0, 1)", "look(2, 10000, 100)");
        verdict(run, 2, 0, 1, 0);
        run.done("statute(3, 0, 9)");
        verdict(run, 2, 0, 9, 4);
        run.done("statute(3, 0, 11)");
        verdict(run, 2, 0, 1, 0);
        run.done("statute(3, 0, 10)", "year()", "look(2, 99, 1)");
        verdict(run, 2, 0, 1, 0);
        verdict(run, 2, 1, 9, 4);
        run.done("look(2, 1, 0)");
        verdict(run, 2, 1, 1, 0);
        run.done("look(2, 1, 1)");
        verdict(run, 2, 1, 9, 4);
        run.end();
    }

    private static void illsAtTheirBounds() {
        Run run = withFarFields("CLASS: ILLS 0 and 1,000").done("sow(0, 0, 1)", "statute(3, 0, 0)");
        verdict(run, 2, 0, 1, 0);
        run.done("look(2, 10000, 0)");
        verdict(run, 2, 0, 1, 0);
        run.done("look(2, 10000, 1)");
        verdict(run, 2, 0, 9, 4);
        run.done("statute(3, 0, 1)");
        verdict(run, 2, 0, 1, 0);
        run.end();
        Run all = withFarFields("CLASS: all ill").done("sow(0, 0, 1)", "look(2, 1, 1)", "statute(3, 0, 1000)");
        verdict(all, 2, 0, 1, 0);
        all.done("statute(3, 0, 999)");
        verdict(all, 2, 0, 9, 4);
        all.end();
    }

    /** The greatest sums that LOOKS can have: 300 times 10,000 plants, all ill. */
    private static void illsOfManyLooks() {
        Run run = withFarFields("CLASS: the greatest sums").done("sow(0, 0, 1)").doneTimes(299, "look(2, 10000, 10000)");
        run.done("look(2, 10000, 9999)", "statute(3, 0, 1000)");
        verdict(run, 2, 0, 1, 0);
        run.done("statute(3, 0, 999)");
        verdict(run, 2, 0, 9, 4);
        run.done("statute(3, 0, 0)");
        verdict(run, 2, 0, 9, 4);
        run.end();
    }

    /** CLASS: if its mother's CLASS and 1 are above the last CLASS (WHY 6). */
    private static void theLastClass() {
        Run run = run("CLASS: the last CLASS").done("field(0, 0, 1, 1)", "tube(1)", "statute(2, 0, 0)", "statute(1, 0, 0)");
        for (int lot = 1; lot <= 8; lot++) {
            run.is("sow(" + (lot - 1) + ", 0, 1)", lot).is("harvest(" + lot + ", 10)", 1).done("year()");
        }
        verdict(run, 5, 8, 5, 0);
        verdict(run, 6, 8, 6, 0);
        verdict(run, 7, 8, 9, 6);
        verdict(run, 8, 8, 9, 7);
        run.done("statute(4, 6, 7)");
        verdict(run, 7, 8, 7, 0);
        verdict(run, 8, 8, 9, 6);
        verdict(run, 7, 7, 9, 6);
        run.is("count(7)", 1).end();
    }

    private static void theLastClassAtItsBounds() {
        Run none = withFarFields("CLASS: the last CLASS 0").done("statute(4, 0, 0)", "sow(0, 0, 1)");
        verdict(none, 0, 0, 0, 0);
        verdict(none, 2, 0, 9, 6);
        none.done("statute(4, 0, 1)");
        verdict(none, 2, 0, 1, 0);
        none.end();
        Run most = run("CLASS: the last CLASS 8").done("field(0, 0, 1, 1)", "tube(1)", "statute(2, 0, 0)");
        most.done("statute(1, 0, 0)", "statute(4, 0, 8)");
        for (int lot = 1; lot <= 9; lot++) {
            most.is("sow(" + (lot - 1) + ", 0, 1)", lot).is("harvest(" + lot + ", 10)", 1).done("year()");
        }
        verdict(most, 8, 9, 8, 0);
        verdict(most, 9, 9, 9, 6);
        most.is("count(7)", 1).end();
    }

    /** CLASS: all STATUTES are those IN FORCE in its YEAR. */
    private static void statutesInForceInItsYear() {
        Run run = withFarFields("CLASS: STATUTES of its YEAR").done("statute(4, 2, 0)", "sow(0, 0, 1)", "year()");
        run.done("sow(1, 1, 1)", "year()", "tube(2)", "sow(4, 0, 1)", "year()", "sow(4, 1, 1)");
        verdict(run, 2, 3, 1, 0);
        verdict(run, 3, 3, 1, 0);
        verdict(run, 5, 3, 9, 6);
        verdict(run, 6, 3, 9, 6);
        run.done("statute(4, 3, 1)");
        verdict(run, 5, 3, 9, 6);
        verdict(run, 6, 3, 1, 0);
        run.end();
    }

    /** WHY: the first that holds, of all that hold at once. */
    private static void whyTheFirstThatHolds() {
        Run run = withFields("WHY: the first that holds", "120, 100, 130, 110").done("stand(0, 0, 1)", "year()");
        run.done("stand(1, 1, 1)", "statute(2, 0, 1)", "statute(3, 0, 0)", "statute(4, 0, 0)", "sow(0, 0, 1)");
        verdict(run, 2, 1, 9, 1);
        run.done("statute(0, 0, 0)");
        verdict(run, 2, 1, 9, 2);
        run.done("statute(1, 0, 0)");
        verdict(run, 2, 1, 9, 3);
        run.done("look(2, 1, 1)");
        verdict(run, 2, 1, 9, 4);
        run.done("statute(3, 0, 1000)");
        verdict(run, 2, 1, 9, 6);
        run.done("statute(4, 0, 1)");
        verdict(run, 2, 1, 1, 0);
        run.done("statute(0, 0, 50)", "statute(1, 0, 2)", "statute(4, 0, 0)", "prove(0)");
        verdict(run, 2, 1, 9, 7);
        run.done("prove(2)");
        verdict(run, 2, 1, 9, 5);
        run.end();
    }
}
