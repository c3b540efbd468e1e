/** The boundary cases of promises 8 to 11, 16, 17 and 28: tube, sow, harvest, mix, toss, look, told. */
public final class LotBoundsTest {
    private static final Due due = new Due("LotBoundsTest");
    private static final int MIN = Integer.MIN_VALUE;
    private static final int MAX = Integer.MAX_VALUE;

    public static void main(String[] args) {
        tubeCrops();
        lotsAreFullByTube();
        sowOfNoSuchOnes();
        sowGrams();
        sowOfALotOfThisYear();
        sowWhereAFieldHasALot();
        lotsAreFullBySow();
        harvestOfNoSuchLot();
        harvestGrams();
        harvestedAlready();
        mixOfNoSuchOnes();
        mixOfTheSameOneAndOfCrops();
        mixGrams();
        lotsAreFullByMix();
        tossOfNoSuchLot();
        tossGrams();
        lookAtNoSuchLot();
        lookPlants();
        looksAreFull();
        toldOfNoSuch();
        toldWhereThereIsNone();
        noGramsBeforeTheHarvest();
        due.end();
    }

    private static Run run(String name) {
        return new Run(due, name);
    }

    /** Two fields, tubes 0 and 1 of crop 1, field lots 2 and 3 of them, and 4, mixed of the tubes. */
    private static Run withLots(String name) {
        Run run = run(name).done("field(0, 0, 10, 10)", "field(500, 0, 510, 10)", "tube(1)", "tube(1)");
        return run.done("sow(0, 0, 10)", "sow(1, 1, 20)", "mix(0, 1, 1, 2)").is("count(2)", 5);
    }

    private static void told(Run run, int lot, int... want) {
        for (int what = 0; what < want.length; what++) {
            run.is("told(" + lot + ", " + what + ")", want[what]);
        }
    }

    /** Promise 8: a crop (1 .. 4). */
    private static void tubeCrops() {
        Run run = run("8: out of bounds");
        run.refusedWith("tube(#)", 0, 5, -1, MIN, MAX).is("tube(1)", 0).is("tube(4)", 1);
        run.refusedWith("tube(#)", 0, 5, -1, MIN, MAX).is("tube(2)", 2).is("tube(3)", 3);
        for (int lot = 0; lot < 4; lot++) {
            run.is("told(" + lot + ", 1)", new int[] {1, 4, 2, 3}[lot]).is("told(" + lot + ", 2)", 100);
        }
        run.is("count(2)", 4).end();
    }

    /** Promise 8: NONE: there are 200. */
    private static void lotsAreFullByTube() {
        Run run = run("8: there are 200");
        run.done("field(0, 0, 1, 1)").doneTimes(199, "tube(1)").refused("tube(5)", "tube(0)").is("tube(4)", 199);
        run.refusedWith("tube(#)", 1, 2, 3, 4).refused("sow(0, 0, 1)", "mix(0, 1, 1, 1)").is("count(2)", 200);
        run.is("told(199, 1)", 4).is("bag(199, 100)", 0).is("toss(198, 100)", 1).is("prove(199)", 1);
        run.refused("told(200, 0)", "prove(200)", "toss(200, 1)", "bag(200, 1)", "judge(200, 0)").end();
    }

    /** Promise 9: NONE: no such ones. */
    private static void sowOfNoSuchOnes() {
        Run run = run("9: no such ones");
        run.refused("sow(0, 0, 1)").done("tube(1)").refused("sow(0, 0, 1)").done("field(0, 0, 1, 1)");
        run.refusedWith("sow(#, 0, 1)", -1, 1, 200, MIN, MAX).refusedWith("sow(0, #, 1)", -1, 1, 40, MIN, MAX);
        run.done("field(2, 0, 3, 1)", "tube(2)").refused("sow(2, 1, 1)", "sow(1, 2, 1)");
        run.is("sow(1, 1, 1)", 2).is("sow(0, 0, 1)", 3).is("stands(1, 0, 0)", 2).is("stands(0, 0, 0)", 1).end();
    }

    /** Promise 9: NONE: not so much, below 1. */
    private static void sowGrams() {
        Run run = run("9: not so much, below 1");
        run.done("field(0, 0, 1, 1)", "field(2, 0, 3, 1)", "field(4, 0, 5, 1)", "tube(1)");
        run.refusedWith("sow(0, 0, #)", 0, -1, 101, MIN, MAX).is("sow(0, 0, 1)", 1);
        run.refusedWith("sow(0, 1, #)", 0, -1, 100, MIN, MAX).is("sow(0, 1, 99)", 2);
        run.refusedWith("sow(0, 2, #)", 0, -1, 1, MIN, MAX);
        run.is("told(0, 2)", 0).is("told(0, 8)", 100).is("stands(2, 0, 0)", 0).end();
    }

    /** Promise 9: NONE: the LOT is no TUBE and came this YEAR. */
    private static void sowOfALotOfThisYear() {
        Run run = withLots("9: no TUBE and came this YEAR").done("harvest(2, 10)", "field(0, 500, 10, 510)");
        run.done("field(500, 500, 510, 510)").refused("sow(2, 2, 1)", "sow(4, 2, 1)").is("sow(0, 2, 1)", 5);
        run.is("harvest(5, 10)", 1).done("year()").is("sow(2, 0, 1)", 6).is("sow(4, 1, 1)", 7).is("sow(5, 2, 1)", 8);
        run.done("harvest(6, 5)", "mix(2, 1, 5, 1)", "tube(1)").refused("sow(6, 3, 1)", "sow(9, 3, 1)");
        run.is("sow(10, 3, 1)", 11).done("year()").is("sow(6, 0, 1)", 12).is("sow(9, 1, 1)", 13).end();
    }

    /** Promise 9: NONE: the FIELD has a LOT this YEAR. */
    private static void sowWhereAFieldHasALot() {
        Run run = run("9: the FIELD has a LOT this YEAR");
        run.done("field(0, 0, 1, 1)", "field(2, 0, 3, 1)", "tube(1)", "tube(2)", "stand(0, 0, 2)");
        run.is("sow(0, 0, 1)", 2).refused("sow(0, 0, 1)", "sow(1, 0, 1)").is("sow(1, 1, 1)", 3);
        run.refused("sow(0, 1, 1)").done("harvest(2, 5)", "harvest(3, 5)", "prove(2)").refused("sow(0, 0, 1)");
        run.done("year()").is("sow(0, 0, 1)", 4).refused("sow(1, 0, 1)").is("sow(1, 1, 1)", 5);
        run.doneTimes(39, "year()").is("sow(1, 0, 1)", 6).refused("sow(0, 0, 1)").is("sow(0, 1, 1)", 7);
        run.refused("year()", "sow(0, 0, 1)").is("stands(0, 40, 40)", 2).is("stands(1, 40, 40)", 1).end();
    }

    /** Promise 9: NONE: there are 200. */
    private static void lotsAreFullBySow() {
        Run run = run("9: there are 200").done("field(0, 0, 1, 1)", "field(2, 0, 3, 1)").doneTimes(199, "tube(3)");
        run.refused("sow(0, 2, 1)", "sow(199, 0, 1)", "sow(0, 0, 101)").is("sow(198, 0, 100)", 199);
        run.refused("sow(0, 1, 1)", "tube(1)", "mix(0, 1, 1, 1)").is("stands(1, 0, 0)", 0).is("told(199, 4)", 0);
        run.is("look(199, 1, 0)", 1).is("harvest(199, 100000)", 1).is("count(2)", 200).end();
    }

    /** Promise 10: False: no such one (a FIELD LOT). */
    private static void harvestOfNoSuchLot() {
        Run run = withLots("10: no such one");
        run.refusedWith("harvest(#, 1)", -1, 5, 200, MIN, MAX).refused("harvest(0, 1)", "harvest(4, 1)");
        run.is("harvest(2, 1)", 1).is("harvest(3, 1)", 1).refused("harvest(1, 1)", "harvest(5, 1)").end();
    }

    /** Promise 10: its GRAMS (1 .. 100,000). */
    private static void harvestGrams() {
        Run run = withLots("10: out of bounds");
        run.refusedWith("harvest(2, #)", 0, -1, 100001, MIN, MAX).is("harvest(2, 1)", 1);
        run.refusedWith("harvest(3, #)", 0, -1, 100001, MIN, MAX).is("harvest(3, 100000)", 1);
        run.is("told(2, 2)", 1).is("told(2, 7)", 1).is("told(3, 2)", 100000).is("told(3, 7)", 100000);
        run.is("toss(3, 100000)", 1).is("toss(2, 1)", 1).end();
    }

    /** Promise 10: False: harvested already. */
    private static void harvestedAlready() {
        Run run = withLots("10: harvested already");
        run.done("harvest(2, 7)").refused("harvest(2, 7)", "harvest(2, 1)", "harvest(2, 100000)").done("toss(2, 7)");
        run.refused("harvest(2, 7)").is("told(2, 2)", 0).is("told(2, 7)", 7).doneTimes(40, "year()");
        run.refused("harvest(2, 7)").is("harvest(3, 9)", 1).refused("harvest(3, 9)").is("told(3, 3)", 0).end();
    }

    /** Promise 11: NONE: no such ones. */
    private static void mixOfNoSuchOnes() {
        Run run = run("11: no such ones").refused("mix(0, 1, 1, 1)").done("tube(1)").refused("mix(0, 1, 1, 1)");
        run.done("tube(1)").refusedWith("mix(#, 1, 1, 1)", -1, 2, 200, MIN, MAX);
        run.refusedWith("mix(0, 1, #, 1)", -1, 2, 200, MIN, MAX).refusedWith("mix(#, 1, #, 1)", -1, 2, MIN, MAX);
        run.is("mix(1, 1, 0, 1)", 2).is("mix(2, 1, 0, 1)", 3).refused("mix(4, 1, 0, 1)").end();
    }

    /** Promise 11: NONE: the same one, crops. */
    private static void mixOfTheSameOneAndOfCrops() {
        Run run = run("11: the same one, crops").done("tube(1)", "tube(2)", "tube(1)", "tube(2)");
        run.refusedWith("mix(#, 1, #, 1)", 0, 1, 2, 3).refused("mix(0, 1, 1, 1)", "mix(1, 1, 0, 1)", "mix(3, 1, 2, 1)");
        run.is("mix(0, 1, 2, 1)", 4).is("mix(3, 1, 1, 1)", 5).refused("mix(4, 1, 5, 1)", "mix(4, 1, 4, 1)");
        run.is("told(4, 1)", 1).is("told(5, 1)", 2).end();
    }

    /** Promise 11: NONE: not so much, below 1 (of either). */
    private static void mixGrams() {
        Run run = run("11: not so much, below 1").done("tube(1)", "tube(1)", "toss(1, 40)");
        run.refusedWith("mix(0, #, 1, 60)", 0, -1, 101, MIN, MAX).refusedWith("mix(0, 100, 1, #)", 0, -1, 61, MIN, MAX);
        run.refusedWith("mix(0, #, 1, #)", 0, -1, 101, MIN, MAX);
        run.is("mix(0, 1, 1, 1)", 2).is("told(2, 2)", 2).is("told(2, 7)", 2);
        run.refused("mix(0, 100, 1, 59)", "mix(0, 99, 1, 60)").is("mix(0, 99, 1, 59)", 3).is("told(3, 2)", 158);
        run.refused("mix(0, 1, 3, 1)", "mix(3, 1, 0, 1)").is("mix(2, 2, 3, 158)", 4).is("told(4, 7)", 160);
        run.is("told(0, 9)", 100).is("told(1, 9)", 60).is("told(2, 9)", 2).is("told(3, 9)", 158);
        run.is("told(0, 2)", 0).is("told(1, 2)", 0).is("told(2, 2)", 0).is("told(3, 2)", 0).end();
    }

    /** Promise 11: NONE: there are 200. */
    private static void lotsAreFullByMix() {
        Run run = run("11: there are 200").done("field(0, 0, 1, 1)").doneTimes(199, "tube(2)");
        run.refused("mix(0, 1, 199, 1)", "mix(0, 1, 0, 1)").is("mix(198, 100, 0, 100)", 199);
        run.refused("mix(1, 1, 2, 1)", "mix(199, 1, 1, 1)", "tube(2)", "sow(1, 0, 1)").is("count(2)", 200);
        run.is("told(199, 2)", 200).is("told(1, 9)", 0).is("told(199, 9)", 0).end();
    }

    /** Promise 16: False: no such LOT. */
    private static void tossOfNoSuchLot() {
        Run run = run("16: no such LOT").refused("toss(0, 1)").done("tube(1)", "tube(2)");
        run.refusedWith("toss(#, 1)", -1, 2, 200, MIN, MAX).is("toss(0, 1)", 1).is("toss(1, 1)", 1).end();
    }

    /** Promise 16: False: not so much, below 1. */
    private static void tossGrams() {
        Run run = run("16: not so much, below 1").done("tube(1)");
        run.refusedWith("toss(0, #)", 0, -1, 101, MIN, MAX).is("toss(0, 1)", 1).is("told(0, 2)", 99);
        run.refusedWith("toss(0, #)", 0, -1, 100, MIN, MAX).is("toss(0, 99)", 1).is("told(0, 11)", 100);
        run.refusedWith("toss(0, #)", 0, -1, 1, MIN, MAX).is("told(0, 2)", 0).is("told(0, 7)", 100).end();
    }

    /** Promise 17: NONE: no such LOT (a FIELD LOT). */
    private static void lookAtNoSuchLot() {
        Run run = withLots("17: no such LOT");
        run.refusedWith("look(#, 1, 0)", -1, 5, 200, MIN, MAX).refused("look(0, 1, 0)", "look(4, 1, 0)");
        run.is("look(2, 1, 0)", 1).is("look(3, 1, 0)", 1).is("look(2, 1, 0)", 2).is("count(6)", 3).end();
    }

    /** Promise 17: NONE: out of bounds (plants 1 .. 10,000, ill 0 .. plants). */
    private static void lookPlants() {
        Run run = withLots("17: out of bounds");
        run.refusedWith("look(2, #, 0)", 0, -1, 10001, MIN, MAX).refusedWith("look(2, #, #)", 0, -1, 10001, MIN, MAX);
        run.refusedWith("look(2, 1, #)", -1, 2, MIN, MAX).refusedWith("look(2, 10000, #)", -1, 10001, MIN, MAX);
        run.refusedWith("look(2, 77, #)", -1, 78, MIN, MAX);
        run.is("look(2, 1, 0)", 1).is("look(2, 1, 1)", 2).is("look(2, 10000, 0)", 3).is("look(2, 10000, 10000)", 4);
        run.is("look(2, 77, 77)", 5).refused("look(2, 0, 0)").is("told(2, 12)", 5).is("count(6)", 5).end();
    }

    /** Promise 17: NONE: 300 were told. What was refused is not one of them. */
    private static void looksAreFull() {
        Run run = withLots("17: 300 were told").refused("look(2, 0, 0)", "look(0, 1, 0)", "look(2, 1, 2)");
        for (int i = 1; i <= 200; i++) {
            run.is("look(2, 10, 0)", i);
        }
        for (int i = 1; i <= 99; i++) {
            run.is("look(3, 10, 10)", i);
        }
        run.refused("look(3, 10001, 0)").is("count(6)", 299).is("look(3, 10, 10)", 100);
        run.refused("look(3, 10, 10)", "look(2, 1, 1)").is("count(6)", 300).is("told(2, 12)", 200).is("told(3, 12)", 100);
        run.done("year()").refused("look(2, 1, 1)", "look(3, 1, 0)").is("judge(2, 1)", 1).is("why(3, 1)", 4).end();
    }

    /** Promise 28: NONE for others, or if there is none such. */
    private static void toldOfNoSuch() {
        Run run = run("28: for others, or if there is none such").refused("told(0, 0)").done("tube(1)", "prove(0)");
        for (int what = -1; what <= 14; what++) {
            run.refusedWith("told(#, " + what + ")", -1, 1, 200, MIN, MAX);
        }
        run.refusedWith("told(0, #)", -1, 14, MIN, MAX).is("told(0, 0)", 0).is("told(0, 13)", 0).end();
    }

    /** Promise 28: NONE where there is none. */
    private static void toldWhereThereIsNone() {
        Run run = withLots("28: where there is none").done("year()", "harvest(3, 100000)", "look(3, 1, 0)", "prove(3)");
        told(run, 0, 0, 1, 89, 0, -1, -1, -1, 100, 10, 1, 0, 0, 0, -1);
        told(run, 1, 0, 1, 78, 0, -1, -1, -1, 100, 20, 2, 0, 0, 0, -1);
        told(run, 2, 1, 1, 0, 0, 0, 0, -1, -1, 0, 0, 0, 0, 0, -1);
        told(run, 3, 1, 1, 100000, 0, 1, 1, -1, 100000, 0, 0, 0, 0, 1, 1);
        told(run, 4, 2, 1, 3, 0, -1, 0, 1, 3, 0, 0, 0, 0, 0, -1);
        run.done("toss(4, 3)", "toss(3, 100000)").is("told(4, 7)", 3).is("told(3, 7)", 100000).end();
    }

    /** Promise 9: the new LOT, with no GRAMS yet. */
    private static void noGramsBeforeTheHarvest() {
        Run run = withLots("9: no GRAMS yet").done("look(2, 1, 0)", "look(3, 1, 0)", "year()");
        run.refused("sow(2, 0, 1)", "mix(2, 1, 0, 1)", "mix(0, 1, 2, 1)", "bag(2, 1)", "toss(2, 1)", "bag(2, 0)");
        run.is("told(2, 2)", 0).refused("told(2, 7)").is("harvest(2, 1)", 1).refused("toss(2, 2)").is("sow(2, 0, 1)", 5);
        run.refused("toss(2, 1)").is("told(2, 2)", 0).is("told(2, 7)", 1).end();
    }
}
