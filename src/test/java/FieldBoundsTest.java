/** The boundary cases of promises 1 to 5: a new object, field, near, stand, stands. */
public final class FieldBoundsTest {
    private static final Due due = new Due("FieldBoundsTest");
    private static final int MIN = Integer.MIN_VALUE;
    private static final int MAX = Integer.MAX_VALUE;

    public static void main(String[] args) {
        newObjectHasNothing();
        fieldSides();
        fieldCornersInAnyOrder();
        fieldWithoutInside();
        fieldsAreFull();
        nearLeastDistances();
        nearOfNoSuchFields();
        standOfNoSuchField();
        standYears();
        standYearsInTheLastYear();
        standCrops();
        standIsFull();
        standsOfNoSuch();
        standsAsKnown();
        standsByALot();
        due.end();
    }

    private static Run run(String name) {
        return new Run(due, name);
    }

    /** Promise 1: YEAR 0, nothing. */
    private static void newObjectHasNothing() {
        Run run = run("1: YEAR 0, nothing");
        for (int what = 0; what <= 8; what++) {
            run.is("count(" + what + ")", 0);
        }
        run.refused("near(0, 0)", "stand(0, 0, 1)", "stands(0, 0, 0)", "sow(0, 0, 1)", "harvest(0, 1)");
        run.refused("mix(0, 1, 1, 1)", "bag(0, 1)", "open(0)", "seal(0)", "sell(0, 0)", "toss(0, 1)");
        run.refused("look(0, 1, 0)", "prove(0)", "judge(0, 0)", "why(0, 0)", "ways(0, 0)", "touched(0, 0, 0)");
        run.refused("buyers(0)", "want(0)", "plan(0)", "told(0, 0)", "sack(0, 0)");
        int[] atFirst = {50, 2, 1, 10, 6};
        for (int kind = 0; kind < 5; kind++) {
            run.is("force(" + kind + ", 0, 0)", atFirst[kind]);
        }
        run.is("want(-1)", 0).is("field(0, 0, 1, 1)", 0).is("tube(1)", 0).is("bag(0, 1)", 0).is("year()", 1).end();
    }

    /** Promise 2: out of bounds (whole sides, 0 .. 1,000). */
    private static void fieldSides() {
        Run run = run("2: out of bounds");
        run.is("field(0, 0, 1000, 1000)", 0);
        run.refusedWith("field(#, 5, 9, 9)", -1, 1001, MIN, MAX).refusedWith("field(5, #, 9, 9)", -1, 1001, MIN, MAX);
        run.refusedWith("field(5, 5, #, 9)", -1, 1001, MIN, MAX).refusedWith("field(5, 5, 9, #)", -1, 1001, MIN, MAX);
        run.is("field(0, 5, 9, 9)", 1).is("field(1000, 5, 9, 9)", 2);
        run.is("field(5, 0, 9, 9)", 3).is("field(5, 1000, 9, 9)", 4);
        run.is("field(5, 5, 0, 9)", 5).is("field(5, 5, 1000, 9)", 6);
        run.is("field(5, 5, 9, 0)", 7).is("field(5, 5, 9, 1000)", 8);
        run.is("count(1)", 9).end();
    }

    /** Promise 2: by two opposite corners. */
    private static void fieldCornersInAnyOrder() {
        Run run = run("2: two opposite corners");
        run.is("field(0, 0, 10, 10)", 0);
        run.is("field(13, 14, 20, 20)", 1).is("field(20, 20, 13, 14)", 2);
        run.is("field(13, 20, 20, 14)", 3).is("field(20, 14, 13, 20)", 4);
        for (int i = 1; i <= 4; i++) {
            run.is("near(0, " + i + ")", 25).is("near(" + i + ", 0)", 25);
        }
        run.end();
    }

    /** Promise 2: no inside. */
    private static void fieldWithoutInside() {
        Run run = run("2: no inside");
        run.refusedWith("field(#, 0, #, 1000)", 0, 1, 500, 999, 1000);
        run.refusedWith("field(0, #, 1000, #)", 0, 1, 500, 999, 1000);
        run.refusedWith("field(#, #, #, #)", 0, 500, 1000);
        run.is("field(0, 0, 1, 1)", 0).is("field(999, 999, 1000, 1000)", 1).is("field(500, 7, 499, 6)", 2).end();
    }

    /** Promise 2: there are 40. */
    private static void fieldsAreFull() {
        Run run = run("2: there are 40");
        for (int i = 0; i < 39; i++) {
            run.is("field(" + i + ", 0, " + (i + 1) + ", 1)", i);
        }
        run.refused("field(0, 0, 0, 1)", "field(0, 0, 1, 1001)");
        run.is("field(100, 100, 200, 200)", 39);
        run.refused("field(0, 0, 1, 1)", "field(0, 0, 1000, 1000)", "field(-1, 0, 1, 1)");
        run.is("count(1)", 40).is("near(39, 39)", 0).refused("near(39, 40)", "stand(40, 0, 1)");
        run.is("stand(39, 0, 4)", 1).is("stands(39, 0, 0)", 4).end();
    }

    /** Promise 3: NEAR is the square of the least distance of their points. */
    private static void nearLeastDistances() {
        Run run = run("3: least distance");
        run.is("field(100, 100, 200, 200)", 0);
        String[] boxes = {"200, 100, 300, 200", "200, 200, 300, 300", "201, 100, 300, 200", "100, 201, 200, 300",
            "201, 201, 300, 300", "0, 0, 99, 99", "199, 199, 300, 300", "120, 120, 130, 130", "0, 0, 1000, 1000",
            "0, 150, 99, 151", "150, 0, 151, 97", "203, 0, 204, 96"};
        int[] want = {0, 0, 1, 1, 2, 2, 0, 0, 0, 1, 9, 25};
        for (int i = 0; i < boxes.length; i++) {
            run.is("field(" + boxes[i] + ")", i + 1);
            run.is("near(0, " + (i + 1) + ")", want[i]).is("near(" + (i + 1) + ", 0)", want[i]);
            run.is("near(" + (i + 1) + ", " + (i + 1) + ")", 0);
        }
        run.end();
        run("3: greatest distance").done("field(0, 0, 1, 1)", "field(999, 999, 1000, 1000)", "field(0, 999, 1, 1000)")
            .is("near(0, 1)", 1992008).is("near(1, 0)", 1992008).is("near(0, 2)", 996004).is("near(1, 2)", 996004).end();
    }

    /** Promise 3: NONE: no such FIELDS (0 with itself). */
    private static void nearOfNoSuchFields() {
        Run run = run("3: no such FIELDS");
        run.refused("near(0, 0)").done("field(0, 0, 1, 1)", "field(2, 0, 3, 1)");
        run.is("near(0, 0)", 0).is("near(1, 1)", 0).is("near(0, 1)", 1).is("near(1, 0)", 1);
        run.refusedWith("near(0, #)", -1, 2, 40, MIN, MAX).refusedWith("near(#, 0)", -1, 2, 40, MIN, MAX);
        run.refusedWith("near(#, #)", -1, 2, 40, MIN, MAX).end();
    }

    /** Promise 4: False: no such one (FIELD). */
    private static void standOfNoSuchField() {
        Run run = run("4: no such FIELD");
        run.refused("stand(0, 0, 1)").done("field(0, 0, 1, 1)", "field(2, 0, 3, 1)");
        run.refusedWith("stand(#, 0, 1)", -1, 2, 39, 40, MIN, MAX);
        run.is("stand(0, 0, 1)", 1).is("stand(1, 0, 2)", 1);
        run.is("stands(0, 0, 0)", 1).is("stands(1, 0, 0)", 2).end();
    }

    /** Promise 4: in a YEAR up to NOW. */
    private static void standYears() {
        Run run = run("4: a YEAR up to NOW");
        run.done("field(0, 0, 1, 1)").refusedWith("stand(0, #, 1)", -1, 1, 40, 41, MIN, MAX);
        run.is("stand(0, 0, 1)", 1).done("year()", "year()").refusedWith("stand(0, #, 2)", -1, 3, 40, 41, MIN, MAX);
        run.is("stand(0, 0, 2)", 1).is("stand(0, 2, 3)", 1).is("stand(0, 1, 4)", 1);
        run.is("stands(0, 0, 0)", 1).is("stands(0, 0, 2)", 2).is("stands(0, 1, 2)", 4).is("stands(0, 2, 2)", 3).end();
    }

    private static void standYearsInTheLastYear() {
        Run run = run("4: a YEAR up to NOW, 40");
        run.done("field(0, 0, 1, 1)").doneTimes(39, "year()").refused("stand(0, 40, 1)").is("stand(0, 39, 1)", 1);
        run.done("year()").refused("year()").refused("stand(0, 41, 1)").is("stand(0, 40, 2)", 1);
        run.is("stand(0, 0, 3)", 1).is("stands(0, 40, 40)", 2).is("stands(0, 39, 39)", 1).is("stands(0, 0, 40)", 3);
        run.is("stands(0, 0, 39)", 0).refused("stands(0, 41, 40)", "stands(0, 40, 41)").end();
    }

    /** Promise 4: a crop 0 .. 4; told again: that. */
    private static void standCrops() {
        Run run = run("4: a crop 0 .. 4");
        run.done("field(0, 0, 1, 1)");
        for (int crop : new int[] {4, 1, 0, 2, 3, 4, 0}) {
            run.refusedWith("stand(0, 0, #)", -1, 5, MIN, MAX);
            run.is("stand(0, 0, " + crop + ")", 1).is("stands(0, 0, 0)", crop);
        }
        run.end();
    }

    /** Promise 4: False: 300 were told. What was refused is not one of them. */
    private static void standIsFull() {
        Run run = run("4: 300 were told");
        run.done("field(0, 0, 1, 1)", "field(2, 0, 3, 1)");
        run.refused("stand(0, 0, 5)", "stand(0, 1, 1)", "stand(2, 0, 1)");
        for (int i = 0; i < 150; i++) {
            run.done("stand(0, 0, " + i % 5 + ")", "stand(1, 0, " + (i + 1) % 5 + ")");
        }
        run.refused("stand(0, 0, 1)", "stand(1, 0, 1)", "stand(0, 0, 0)");
        run.is("stands(0, 0, 0)", 4).is("stands(1, 0, 0)", 0);
        run.done("year()").refused("stand(0, 1, 1)", "stand(1, 0, 3)");
        run.is("stands(0, 1, 1)", 0).is("stands(1, 0, 1)", 0).end();
    }

    /** Promise 5: NONE: no such (FIELD; YEAR and q both 0 .. NOW). */
    private static void standsOfNoSuch() {
        Run run = run("5: no such");
        run.refused("stands(0, 0, 0)").done("field(0, 0, 1, 1)", "stand(0, 0, 4)").is("stands(0, 0, 0)", 4);
        run.refusedWith("stands(#, 0, 0)", -1, 1, 40, MIN, MAX).refusedWith("stands(0, #, 0)", -1, 1, 40, MIN, MAX);
        run.refusedWith("stands(0, 0, #)", -1, 1, 40, MIN, MAX);
        run.done("year()", "year()", "stand(0, 2, 3)").is("stands(0, 2, 2)", 3).is("stands(0, 0, 2)", 4);
        run.refusedWith("stands(0, #, 2)", -1, 3, MIN, MAX).refusedWith("stands(0, 2, #)", -1, 3, MIN, MAX);
        run.is("stands(0, 2, 0)", 0).is("stands(0, 2, 1)", 0).is("stands(0, 1, 2)", 0).end();
    }

    /** Terms: as known in q: what was told in YEARS up to q (the last one). */
    private static void standsAsKnown() {
        Run run = run("5: as known in q");
        run.done("field(0, 0, 1, 1)", "year()", "stand(0, 0, 1)", "stand(0, 0, 2)", "year()", "year()");
        run.done("stand(0, 0, 3)", "year()", "stand(0, 0, 0)");
        int[] want = {0, 2, 2, 3, 0};
        for (int q = 0; q < want.length; q++) {
            run.is("stands(0, 0, " + q + ")", want[q]);
        }
        run.end();
    }

    /** Terms: by a LOT that is grown there then; a LOT is known from its YEAR on. */
    private static void standsByALot() {
        Run run = run("5: a LOT is known from its YEAR on");
        run.done("field(0, 0, 1, 1)", "tube(2)", "year()", "year()", "stand(0, 2, 4)", "sow(0, 0, 1)");
        run.done("stand(0, 2, 3)", "year()");
        run.is("stands(0, 2, 1)", 0).is("stands(0, 2, 2)", 2).is("stands(0, 2, 3)", 2);
        run.is("stands(0, 1, 3)", 0).is("stands(0, 3, 3)", 0);
        run.done("stand(0, 1, 4)", "stand(0, 3, 1)", "stand(0, 2, 0)");
        run.is("stands(0, 1, 3)", 4).is("stands(0, 3, 3)", 1).is("stands(0, 2, 3)", 2).end();
    }
}
