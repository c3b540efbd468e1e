/** The boundary cases of promises 12 to 15 and 29: bag, open, seal, sell, sack. */
public final class BagBoundsTest {
    private static final Due due = new Due("BagBoundsTest");
    private static final int MIN = Integer.MIN_VALUE;
    private static final int MAX = Integer.MAX_VALUE;

    public static void main(String[] args) {
        bagOfNoSuchLot();
        bagGrams();
        bagOfClassEightAndNine();
        bagAsKnownNow();
        bagsAreFull();
        openNoSuchBag();
        openTwice();
        sealNoSuchBag();
        sealWhatIsNotOpened();
        sealWhatIsSold();
        sealOfALotThatIsOut();
        sealsAreUnlike();
        sellNoSuchBag();
        sellToBuyers();
        sellOpenedOrSold();
        sackOfNoSuch();
        due.end();
    }

    private static Run run(String name) {
        return new Run(due, name);
    }

    private static Run withBags(String name) {
        return run(name).done("tube(1)", "tube(2)").is("bag(0, 5)", 0).is("bag(1, 6)", 1);
    }

    /** Promise 12: NONE: no such LOT. */
    private static void bagOfNoSuchLot() {
        Run run = run("12: no such LOT").refused("bag(0, 1)").done("tube(1)", "tube(2)");
        run.refusedWith("bag(#, 1)", -1, 2, 200, MIN, MAX).is("bag(1, 1)", 0).is("bag(0, 1)", 1);
        run.is("sack(0, 0)", 1).is("sack(1, 0)", 0).end();
    }

    /** Promise 12: NONE: not so much, below 1. */
    private static void bagGrams() {
        Run run = run("12: not so much, below 1").done("tube(1)");
        run.refusedWith("bag(0, #)", 0, -1, 101, MIN, MAX).is("bag(0, 1)", 0);
        run.refusedWith("bag(0, #)", 0, -1, 100, MIN, MAX).is("bag(0, 99)", 1);
        run.refusedWith("bag(0, #)", 0, -1, 1, MIN, MAX).is("told(0, 2)", 0).is("told(0, 10)", 100);
        run.is("sack(0, 1)", 1).is("sack(1, 1)", 99).is("sack(0, 2)", 1).is("sack(1, 2)", 2).is("count(4)", 2).end();
    }

    /** Promise 12: NONE: its CLASS as known NOW is 9. One of 8 is bagged. */
    private static void bagOfClassEightAndNine() {
        Run run = run("12: its CLASS is 9").done("field(0, 0, 1, 1)", "tube(1)");
        run.done("statute(4, 0, 8)", "statute(2, 0, 0)", "statute(1, 0, 0)");
        for (int lot = 1; lot <= 9; lot++) {
            run.is("sow(" + (lot - 1) + ", 0, 1)", lot).is("harvest(" + lot + ", 10)", 1).done("year()");
        }
        run.is("judge(8, 9)", 8).is("bag(8, 1)", 0).is("judge(9, 9)", 9).refused("bag(9, 1)");
        run.is("count(3)", 1).is("count(4)", 1).is("told(9, 10)", 0).is("told(9, 2)", 10);
        run.done("statute(4, 7, 7)").is("judge(8, 9)", 9).refused("bag(8, 1)").is("bag(7, 1)", 1).end();
    }

    /** Promise 12: as known NOW, not as it was known. */
    private static void bagAsKnownNow() {
        Run run = run("12: as known NOW").done("field(0, 0, 1, 1)", "tube(1)", "sow(0, 0, 1)", "harvest(1, 10)");
        run.refused("bag(1, 1)").done("year()", "look(1, 100, 1)").is("judge(1, 0)", 9).is("bag(1, 1)", 0);
        run.done("year()", "look(1, 100, 2)").is("judge(1, 1)", 1).refused("bag(1, 1)").is("told(1, 10)", 1);
        run.done("look(1, 100, 0)").is("bag(1, 9)", 1).is("told(1, 2)", 0).end();
    }

    /** Promise 12: NONE: there are 200. Then no SEAL is used up. */
    private static void bagsAreFull() {
        Run run = run("12: there are 200").done("tube(1)", "tube(1)", "tube(1)").refused("bag(0, 101)", "bag(3, 1)");
        for (int i = 0; i < 199; i++) {
            run.is("bag(" + i / 100 + ", 1)", i);
        }
        run.refused("bag(2, 0)").is("bag(1, 1)", 199).refused("bag(2, 1)", "bag(2, 100)");
        run.is("count(3)", 200).is("count(4)", 200).is("told(2, 2)", 100).is("told(2, 10)", 0);
        run.is("sell(199, 19)", 1).refused("sack(200, 0)", "open(200)", "sell(200, 0)", "seal(200)");
        run.is("open(198)", 1).is("seal(198)", 201).is("count(4)", 201).end();
    }

    /** Promise 13: False: no such one. */
    private static void openNoSuchBag() {
        Run run = run("13: no such one").refused("open(0)").done("tube(1)").refused("open(0)").done("bag(0, 1)", "bag(0, 1)");
        run.refusedWith("open(#)", -1, 2, 200, MIN, MAX).is("open(0)", 1).is("open(1)", 1).end();
    }

    /** Promise 13: False: it is (OPENED). */
    private static void openTwice() {
        Run run = withBags("13: it is");
        run.is("open(0)", 1).refused("open(0)").is("sack(0, 2)", 0).is("sack(1, 2)", 2).is("seal(0)", 3).is("open(0)", 1);
        run.refused("open(0)").is("sack(0, 2)", 0).is("count(4)", 3).is("sell(1, 0)", 1).is("open(1)", 1);
        run.refused("open(1)").is("sack(1, 3)", 0).end();
    }

    /** Promise 14: NONE: no such one. */
    private static void sealNoSuchBag() {
        Run run = run("14: no such one").refused("seal(0)").done("tube(1)", "bag(0, 1)", "bag(0, 1)", "open(0)", "open(1)");
        run.refusedWith("seal(#)", -1, 2, 200, MIN, MAX).is("seal(1)", 3).is("seal(0)", 4).end();
    }

    /** Promise 14: NONE: it is not OPENED. */
    private static void sealWhatIsNotOpened() {
        Run run = withBags("14: it is not OPENED").refused("seal(0)", "seal(1)").done("open(0)").refused("seal(1)");
        run.is("seal(0)", 3).refused("seal(0)").is("sack(0, 2)", 3).is("sack(1, 2)", 2).is("count(4)", 3).end();
    }

    /** Promise 14: NONE: sold. */
    private static void sealWhatIsSold() {
        Run run = withBags("14: sold").done("sell(0, 0)").refused("seal(0)").done("open(0)").refused("seal(0)");
        run.is("sack(0, 2)", 0).is("sack(0, 3)", 0).done("open(1)").is("seal(1)", 3).is("count(4)", 3).end();
    }

    /** Promise 14: NONE: its LOT's CLASS as known NOW is 9. */
    private static void sealOfALotThatIsOut() {
        Run run = run("14: its LOT's CLASS is 9").done("field(0, 0, 1, 1)", "tube(1)", "sow(0, 0, 1)", "harvest(1, 10)");
        run.done("look(1, 100, 1)", "bag(1, 1)", "open(0)", "year()", "look(1, 100, 2)").is("judge(1, 0)", 1);
        run.refused("seal(0)").is("sack(0, 2)", 0).is("count(4)", 1).done("look(1, 100, 0)").is("judge(1, 1)", 1);
        run.is("seal(0)", 2).done("open(0)", "prove(0)").refused("seal(0)").is("count(4)", 2).end();
    }

    /** Terms: SEALS are unlike numbers, 1, 2, .. as they are sealed. */
    private static void sealsAreUnlike() {
        Run run = run("14: 1, 2, .. as they are sealed").done("tube(1)").is("bag(0, 1)", 0).is("sack(0, 2)", 1);
        for (int seal = 2; seal <= 100; seal++) {
            run.done("open(0)").is("seal(0)", seal);
        }
        run.refused("bag(0, 100)", "seal(0)", "bag(1, 1)").is("bag(0, 1)", 1).is("sack(1, 2)", 101).is("sack(0, 2)", 100);
        run.is("count(4)", 101).is("count(3)", 2).end();
    }

    /** Promise 15: False: no such one. */
    private static void sellNoSuchBag() {
        Run run = run("15: no such one").refused("sell(0, 0)").done("tube(1)", "bag(0, 1)", "bag(0, 1)");
        run.refusedWith("sell(#, 0)", -1, 2, 200, MIN, MAX).is("sell(1, 0)", 1).is("sell(0, 0)", 1).end();
    }

    /** Promise 15: False: no such BUYER (0 .. 19). */
    private static void sellToBuyers() {
        Run run = withBags("15: no such BUYER").refusedWith("sell(0, #)", -1, 20, MIN, MAX).is("sell(0, 0)", 1);
        run.refusedWith("sell(1, #)", -1, 20, 32, MIN, MAX).refused("sack(1, 3)").is("sell(1, 19)", 1);
        run.is("sack(0, 3)", 0).is("sack(1, 3)", 19).is("buyers(0)", 1).is("buyers(1)", 1 << 19).end();
    }

    /** Promise 15: False: it is OPENED, or sold. */
    private static void sellOpenedOrSold() {
        Run run = withBags("15: it is OPENED, or sold").done("open(0)").refused("sell(0, 3)").done("seal(0)");
        run.is("sell(0, 3)", 1).refused("sell(0, 3)", "sell(0, 4)").done("open(0)").refused("sell(0, 4)");
        run.is("sack(0, 3)", 3).is("buyers(0)", 8).done("prove(1)").is("sell(1, 5)", 1).refused("sell(1, 5)").end();
    }

    /** Promise 29: NONE for others; SEAL 0 if OPENED; BUYER (NONE). */
    private static void sackOfNoSuch() {
        Run run = run("29: for others").refused("sack(0, 0)").done("tube(1)", "bag(0, 1)", "bag(0, 2)");
        for (int what = -1; what <= 4; what++) {
            run.refusedWith("sack(#, " + what + ")", -1, 2, 200, MIN, MAX);
        }
        run.refusedWith("sack(0, #)", -1, 4, MIN, MAX).refusedWith("sack(1, #)", -1, 4, MIN, MAX);
        run.is("sack(0, 0)", 0).is("sack(1, 1)", 2).is("sack(0, 2)", 1).refused("sack(0, 3)").done("sell(0, 0)");
        run.is("sack(0, 3)", 0).done("open(0)").is("sack(0, 2)", 0).is("sack(0, 3)", 0).end();
    }
}
