/** The boundary cases of promises 26, 27 and 30: want, plan, count. */
public final class PlanBoundsTest {
    private static final Due due = new Due("PlanBoundsTest");
    private static final int MIN = Integer.MIN_VALUE;
    private static final int MAX = Integer.MAX_VALUE;

    public static void main(String[] args) {
        wantNoSuchLot();
        wantIsFull();
        wantTwice();
        wantNone();
        planOfNoSuchLot();
        planWithoutFields();
        planTakesTheFirstSixFields();
        planTakesOneAField();
        planDistances();
        planDistanceAtItsBounds();
        planYearsSince();
        planYearsSinceAtItsBounds();
        planByStatutesOfTheNextYear();
        planInTheLastYear();
        asManyAsCanBeGo();
        lowerFieldsFirstAndNoneBehindAll();
        countForOthers();
        countsWhenFull();
        due.end();
    }

    private static Run run(String name) {
        return new Run(due, name);
    }

    /** Fields far from one another in a line, and a tube of each of these crops, all wanted. */
    private static Run withFields(String name, int fields, int... crops) {
        Run run = run(name);
        for (int field = 0; field < fields; field++) {
            run.done("field(" + field * 100 + ", 0, " + (field * 100 + 10) + ", 10)");
        }
        for (int lot = 0; lot < crops.length; lot++) {
            run.is("tube(" + crops[lot] + ")", lot).is("want(" + lot + ")", lot + 1);
        }
        return run;
    }

    private static void plan(Run run, int... want) {
        for (int i = 0; i < want.length; i++) {
            run.is("plan(" + i + ")", want[i]);
        }
        run.refusedWith("plan(#)", -1, want.length);
    }

    /** Promise 26: NONE: no such LOT. */
    private static void wantNoSuchLot() {
        Run run = run("26: no such LOT").refused("want(0)").done("tube(1)", "tube(1)");
        run.refusedWith("want(#)", -2, 2, 200, MIN, MAX).is("want(1)", 1).is("want(0)", 2);
        run.refusedWith("want(#)", -2, 2, 200, MIN, MAX).is("count(8)", 2).end();
    }

    /** Promise 26: at most five; NONE: full. */
    private static void wantIsFull() {
        Run run = withFields("26: full", 6, 1, 2, 3, 4).done("tube(1)", "tube(1)", "stand(0, 0, 1)");
        run.refused("want(3)", "want(6)").is("want(4)", 5).refused("want(5)", "want(0)", "want(6)").is("count(8)", 5);
        plan(run, 1, 0, 2, 3, 4);
        run.end();
    }

    /** Promise 26: the same one once; NONE: told already. */
    private static void wantTwice() {
        Run run = withFields("26: told already", 3, 1, 2).refused("want(0)", "want(1)").done("tube(1)").is("want(2)", 3);
        run.refused("want(0)", "want(1)", "want(2)").is("count(8)", 3).done("stand(0, 0, 1)");
        plan(run, 1, 0, 2);
        run.end();
    }

    /** Promise 26: or NONE: none are. */
    private static void wantNone() {
        Run run = run("26: none are").is("want(-1)", 0).is("want(-1)", 0).done("field(0, 0, 1, 1)");
        run.doneTimes(6, "tube(1)").is("want(5)", 1).is("want(-1)", 0).is("count(8)", 0);
        plan(run);
        for (int lot = 5; lot >= 1; lot--) {
            run.is("want(" + lot + ")", 6 - lot);
        }
        run.refused("want(0)").is("want(-1)", 0).is("want(0)", 1).is("count(8)", 1);
        plan(run, 0);
        run.end();
    }

    /** Promise 27: NONE: there is no such LOT. */
    private static void planOfNoSuchLot() {
        Run run = withFields("27: no such LOT", 6).refusedWith("plan(#)", -1, 0, 1, 5, MIN, MAX);
        run.doneTimes(5, "tube(1)").is("want(3)", 1).is("plan(0)", 0).refusedWith("plan(#)", -1, 1, 3, 4, 5, MIN, MAX);
        run.done("want(0)", "want(1)", "want(2)", "want(4)").is("plan(4)", 4);
        run.refusedWith("plan(#)", -1, 5, 6, MIN, MAX).end();
    }

    /** Promise 27: NONE: none. */
    private static void planWithoutFields() {
        Run run = withFields("27: no FIELDS", 0, 1, 2, 3, 4, 1);
        plan(run, -1, -1, -1, -1, -1);
        run.done("field(0, 0, 1, 1)");
        plan(run, 0, -1, -1, -1, -1);
        run.end();
    }

    /** PLAN: the first six FIELDS. */
    private static void planTakesTheFirstSixFields() {
        Run run = withFields("27: the first six FIELDS", 5, 1, 1);
        run.done("stand(0, 0, 1)", "stand(1, 0, 1)", "stand(2, 0, 1)", "stand(3, 0, 1)");
        plan(run, 4, -1);
        run.done("field(900, 0, 910, 10)");
        plan(run, 4, 5);
        run.done("field(900, 900, 910, 910)", "stand(4, 0, 1)");
        plan(run, 5, -1);
        run.done("stand(5, 0, 1)");
        plan(run, -1, -1);
        run.end();
    }

    /** PLAN: a FIELD takes one, of whatever crops. */
    private static void planTakesOneAField() {
        Run run = withFields("27: a FIELD takes one", 1, 1, 2, 3).done("statute(0, 0, 0)");
        plan(run, 0, -1, -1);
        run.done("field(0, 0, 10, 10)");
        plan(run, 0, 1, -1);
        run.done("field(0, 0, 10, 10)");
        plan(run, 0, 1, 2);
        run.end();
    }

    /** PLAN: two LOTS of one crop go to FIELDS that are not nearer than DISTANCE. */
    private static void planDistances() {
        Run run = withFields("27: DISTANCE", 3, 1, 1, 2);
        plan(run, 0, 1, 2);
        run.done("statute(0, 0, 90)");
        plan(run, 0, 1, 2);
        run.done("statute(0, 0, 91)");
        plan(run, 0, 2, 1);
        run.done("statute(0, 0, 190)");
        plan(run, 0, 2, 1);
        run.done("statute(0, 0, 191)");
        plan(run, 0, -1, 1);
        run.end();
        Run corner = run("27: DISTANCE over a corner").done("field(0, 0, 10, 10)", "field(40, 50, 50, 60)", "tube(1)");
        corner.done("tube(1)", "want(0)", "want(1)").is("near(0, 1)", 2500);
        plan(corner, 0, 1);
        corner.done("statute(0, 1, 51)");
        plan(corner, 0, -1);
        corner.end();
    }

    private static void planDistanceAtItsBounds() {
        Run run = run("27: DISTANCE 0, 1 and 1,000").done("field(0, 0, 10, 10)", "field(10, 0, 20, 10)");
        run.done("field(0, 0, 10, 10)", "field(999, 999, 1000, 1000)", "tube(1)", "tube(1)", "tube(1)");
        run.done("want(0)", "want(1)", "want(2)");
        plan(run, 0, 3, -1);
        run.done("statute(0, 0, 0)");
        plan(run, 0, 1, 2);
        run.done("statute(0, 0, 1)");
        plan(run, 0, 3, -1);
        run.done("statute(0, 0, 1000)");
        plan(run, 0, 3, -1);
        run.end();
    }

    /** PLAN: a FIELD that has not stood with its crop in the YEARS SINCE YEARS ahead (as known NOW). */
    private static void planYearsSince() {
        Run run = withFields("27: YEARS SINCE", 2, 1).done("stand(0, 0, 1)");
        plan(run, 1);
        run.done("year()");
        plan(run, 1);
        run.done("year()");
        plan(run, 0);
        run.done("statute(1, 0, 3)");
        plan(run, 1);
        run.done("stand(0, 0, 2)");
        plan(run, 0);
        run.done("stand(0, 2, 1)", "statute(1, 0, 1)");
        plan(run, 1);
        run.done("sow(0, 1, 1)");
        plan(run, -1);
        run.end();
    }

    private static void planYearsSinceAtItsBounds() {
        Run run = withFields("27: YEARS SINCE 0 and 10", 2, 1).done("statute(1, 0, 10)", "stand(0, 0, 1)");
        for (int year = 1; year <= 9; year++) {
            run.done("year()");
        }
        plan(run, 1);
        run.done("year()");
        plan(run, 0);
        run.done("stand(0, 1, 1)");
        plan(run, 1);
        run.done("stand(0, 10, 1)", "stand(1, 10, 1)");
        plan(run, -1);
        run.done("statute(1, 0, 0)");
        plan(run, 0);
        run.end();
        Run first = withFields("27: YEARS SINCE 10 in YEAR 0", 2, 1).done("statute(1, 0, 10)", "stand(0, 0, 2)");
        plan(first, 0);
        first.done("stand(0, 0, 1)");
        plan(first, 1);
        first.end();
    }

    /** PLAN: STATUTES IN FORCE in the next YEAR. */
    private static void planByStatutesOfTheNextYear() {
        Run run = withFields("27: STATUTES of the next YEAR", 2, 1, 1).done("statute(0, 2, 1000)");
        plan(run, 0, 1);
        run.done("statute(0, 1, 91)");
        plan(run, 0, -1);
        run.done("statute(0, 1, 90)", "stand(0, 0, 1)", "statute(1, 2, 0)");
        plan(run, 1, -1);
        run.done("statute(1, 1, 0)");
        plan(run, 0, 1);
        run.done("year()");
        plan(run, 0, -1);
        run.end();
    }

    /** PLAN for the YEAR behind NOW, when NOW is 40. */
    private static void planInTheLastYear() {
        Run run = withFields("27: NOW 40", 2, 1, 1).doneTimes(40, "year()").done("statute(0, 41, 91)");
        plan(run, 0, -1);
        run.done("statute(0, 41, 90)", "statute(0, 42, 1000)", "stand(0, 38, 1)");
        plan(run, 0, 1);
        run.done("stand(0, 39, 1)");
        plan(run, 1, -1);
        run.refused("year()").done("stand(0, 39, 0)", "stand(0, 40, 1)", "stand(1, 40, 1)");
        plan(run, -1, -1);
        run.end();
    }

    /** PLAN: as many as can be go. */
    private static void asManyAsCanBeGo() {
        Run run = withFields("27: as many as can be", 2, 1, 2).done("stand(1, 0, 2)");
        plan(run, 1, 0);
        run.end();
        Run middle = run("27: all three but for the middle").done("field(0, 0, 10, 10)", "field(50, 0, 60, 10)");
        middle.done("field(100, 0, 110, 10)", "tube(1)", "tube(1)", "want(0)", "want(1)", "stand(0, 0, 2)");
        plan(middle, 0, 2);
        middle.done("stand(0, 0, 1)");
        plan(middle, 1, -1);
        middle.end();
        Run three = withFields("27: the first makes room for the second", 3, 1, 2, 3).done("stand(1, 0, 2)");
        three.done("stand(2, 0, 2)", "stand(0, 0, 3)", "year()", "stand(1, 1, 3)");
        plan(three, 1, 0, 2);
        three.done("stand(1, 1, 1)", "stand(0, 0, 0)");
        plan(three, 2, 0, 1);
        three.end();
        Run five = withFields("27: five of five", 5, 1, 2, 3, 4, 1);
        for (int crop = 1; crop <= 4; crop++) {
            five.done("year()", "stand(" + (crop - 1) + ", " + crop + ", " + crop + ")");
        }
        five.done("statute(1, 0, 10)");
        plan(five, 1, 0, 3, 2, 4);
        five.end();
    }

    /** PLAN: the way by which the first LOT that goes elsewhere goes to a lower FIELD (none is behind all). */
    private static void lowerFieldsFirstAndNoneBehindAll() {
        Run run = withFields("27: none is behind all", 1, 1, 2, 3, 4, 1);
        plan(run, 0, -1, -1, -1, -1);
        run.done("stand(0, 0, 1)");
        plan(run, -1, 0, -1, -1, -1);
        run.done("year()", "stand(0, 1, 2)");
        plan(run, -1, -1, 0, -1, -1);
        run.end();
        Run lower = withFields("27: a lower FIELD", 6, 1, 2, 3, 4, 1).done("stand(0, 0, 1)");
        plan(lower, 1, 0, 2, 3, 4);
        lower.done("want(-1)", "want(4)", "want(3)", "want(2)", "want(1)", "want(0)");
        plan(lower, 1, 0, 2, 3, 4);
        lower.end();
    }

    /** Promise 30: NONE for others. */
    private static void countForOthers() {
        Run run = run("30: for others").refusedWith("count(#)", -1, 9, MIN, MAX).is("count(0)", 0).is("count(8)", 0);
        run.done("tube(1)", "want(0)", "year()").is("count(0)", 1).is("count(8)", 1);
        run.refusedWith("count(#)", -1, 9, MIN, MAX).end();
    }

    /** Promise 30: what is counted, where no more may come. */
    private static void countsWhenFull() {
        Run run = run("30: FIELDS, LOTS and LOTS that are OUT").doneTimes(40, "field(0, 0, 1, 1)").refused("field(0, 0, 1, 1)");
        run.doneTimes(40, "year()").refused("year()").doneTimes(199, "tube(1)").is("sow(0, 0, 1)", 199).refused("tube(1)");
        run.is("count(0)", 40).is("count(1)", 40).is("count(2)", 200).is("count(3)", 0).is("count(7)", 1);
        for (int lot = 0; lot < 199; lot++) {
            run.done("prove(" + lot + ")");
        }
        run.is("count(7)", 200).refused("prove(0)").is("prove(199)", 1).is("count(7)", 200).end();
    }
}
