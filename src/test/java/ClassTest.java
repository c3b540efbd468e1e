/** Promises 19 to 22: prove, year, judge, why; and the rules of CLASS and WHY. */
public final class ClassTest {
    private static final Due due = new Due("ClassTest");

    public static void main(String[] args) {
        years();
        proving();
        judgedYears();
        neighboursToldCrops();
        neighboursWithLots();
        neighboursWithTubesThatCameLater();
        yearsSince();
        looksAndIlls();
        lastClass();
        falseMothers();
        firstReasonCounts();
        statutesOfTheYear();
        longRowOfMixedLots();
        due.end();
    }

    private static void is(CleanSeed x, int lot, int q, int rank, int reason) {
        due.is("judge(" + lot + ", " + q + ")", x.judge(lot, q), rank);
        due.is("why(" + lot + ", " + q + ")", x.why(lot, q), reason);
    }

    private static void years() {
        CleanSeed x = new CleanSeed();
        for (int i = 1; i <= 40; i++) {
            due.is("year " + i, x.year(), i);
        }
        due.is("year 41", x.year(), -1);
        due.is("now", x.count(0), 40);
        x.tube(1);
        is(x, 0, 40, 0, 0);
        x.field(0, 0, 1, 1);
        due.is("sown in 40", x.sow(0, 0, 1), 1);
        due.is("stands in 40", x.stands(0, 40, 40), 1);
    }

    private static void proving() {
        CleanSeed x = new CleanSeed();
        x.tube(1);
        due.is("no lot", x.prove(1), false);
        due.is("lot -1", x.prove(-1), false);
        x.year();
        due.is("proven", x.prove(0), true);
        due.is("again", x.prove(0), false);
        x.year();
        due.is("again later", x.prove(0), false);
        due.is("the year", x.told(0, 13), 1);
        is(x, 0, 0, 0, 0);
        is(x, 0, 1, 9, 5);
        is(x, 0, 2, 9, 5);
        due.is("out", x.count(7), 1);
    }

    private static void judgedYears() {
        CleanSeed x = new CleanSeed();
        x.year();
        x.tube(1);
        x.year();
        is(x, 0, -1, -1, -1);
        is(x, 0, 0, -1, -1);
        is(x, 0, 1, 0, 0);
        is(x, 0, 2, 0, 0);
        is(x, 0, 3, -1, -1);
        is(x, 1, 2, -1, -1);
        is(x, -1, 2, -1, -1);
    }

    private static CleanSeed twoFields(int gap) {
        CleanSeed x = new CleanSeed();
        x.field(0, 0, 10, 10);
        x.field(10 + gap, 0, 20 + gap, 10);
        x.tube(1);
        x.tube(1);
        x.statute(2, 0, 0);
        return x;
    }

    private static void neighboursToldCrops() {
        CleanSeed x = twoFields(49);
        x.sow(0, 0, 1);
        is(x, 2, 0, 1, 0);
        x.stand(1, 0, 2);
        is(x, 2, 0, 1, 0);
        x.stand(1, 0, 1);
        is(x, 2, 0, 9, 1);
        x.stand(1, 0, 0);
        is(x, 2, 0, 1, 0);
        x.stand(1, 0, 1);
        x.statute(0, 0, 49);
        is(x, 2, 0, 1, 0);
        x.year();
        x.statute(0, 0, 50);
        is(x, 2, 1, 9, 1);
        is(x, 2, 0, 1, 0);

        CleanSeed far = twoFields(50);
        far.sow(0, 0, 1);
        far.stand(1, 0, 1);
        is(far, 2, 0, 1, 0);
        far.statute(0, 0, 51);
        is(far, 2, 0, 9, 1);

        CleanSeed touching = twoFields(0);
        touching.sow(0, 0, 1);
        touching.stand(1, 0, 1);
        touching.statute(0, 0, 1);
        is(touching, 2, 0, 9, 1);
        touching.statute(0, 0, 0);
        is(touching, 2, 0, 1, 0);

        CleanSeed later = twoFields(10);
        later.sow(0, 0, 1);
        later.year();
        later.stand(1, 0, 1);
        is(later, 2, 0, 1, 0);
        is(later, 2, 1, 9, 1);
        later.stand(1, 1, 1);
        later.stand(1, 0, 0);
        is(later, 2, 1, 1, 0);

        CleanSeed own = twoFields(10);
        own.stand(0, 0, 1);
        own.sow(0, 0, 1);
        is(own, 2, 0, 1, 0);
    }

    private static void neighboursWithLots() {
        CleanSeed x = twoFields(10);
        x.statute(1, 0, 0);
        x.sow(0, 0, 1);
        x.harvest(2, 100);
        x.year();
        due.is("of a class 1 lot", x.sow(2, 0, 1), 3);
        due.is("of a tube", x.sow(1, 1, 1), 4);
        is(x, 3, 1, 2, 0);
        is(x, 4, 1, 9, 1);
        due.is("one is out", x.count(7), 1);
        x.year();
        due.is("of a class 1 lot", x.sow(2, 0, 1), 5);
        due.is("of the same lot", x.sow(2, 1, 1), 6);
        is(x, 5, 2, 2, 0);
        is(x, 6, 2, 2, 0);
        x.year();
        x.sow(2, 0, 1);
        x.sow(1, 1, 1);
        x.prove(1);
        is(x, 7, 3, 9, 1);
        is(x, 8, 3, 9, 7);
        x.year();
        x.stand(1, 4, 1);
        x.sow(2, 0, 1);
        is(x, 9, 4, 9, 1);
        due.is("sown where a crop was told", x.sow(0, 1, 1), 10);
        is(x, 9, 4, 2, 0);
    }

    private static void neighboursWithTubesThatCameLater() {
        CleanSeed x = twoFields(10);
        x.sow(0, 0, 1);
        x.tube(1);
        x.sow(3, 1, 1);
        is(x, 2, 0, 1, 0);
        x.year();
        x.prove(3);
        is(x, 2, 0, 1, 0);
        is(x, 2, 1, 9, 1);
        is(x, 4, 1, 9, 7);
        is(x, 2, 0, 1, 0);
    }

    private static void yearsSince() {
        CleanSeed x = twoFields(500);
        x.stand(0, 0, 1);
        x.year();
        x.year();
        x.sow(0, 0, 1);
        is(x, 2, 2, 9, 2);
        x.statute(1, 2, 1);
        is(x, 2, 2, 1, 0);
        x.year();
        x.statute(1, 3, 10);
        x.sow(0, 0, 1);
        is(x, 3, 3, 9, 2);
        x.sow(1, 1, 1);
        is(x, 4, 3, 1, 0);
        x.year();
        x.stand(1, 1, 2);
        is(x, 4, 4, 1, 0);
        x.stand(1, 1, 1);
        is(x, 4, 4, 9, 2);
        is(x, 4, 3, 1, 0);
        x.stand(1, 3, 1);
        x.stand(1, 4, 1);
        x.stand(1, 1, 0);
        is(x, 4, 4, 1, 0);

        CleanSeed third = twoFields(500);
        third.stand(0, 0, 1);
        third.year();
        third.year();
        third.year();
        third.sow(0, 0, 1);
        is(third, 2, 3, 1, 0);
        third.statute(1, 0, 3);
        is(third, 2, 3, 9, 2);
    }

    private static void looksAndIlls() {
        CleanSeed x = twoFields(500);
        x.statute(2, 0, 2);
        x.sow(0, 0, 1);
        is(x, 2, 0, 9, 3);
        x.look(2, 1000, 1000);
        is(x, 2, 0, 9, 3);
        x.look(2, 1000, 0);
        is(x, 2, 0, 9, 4);
        x.statute(3, 0, 500);
        is(x, 2, 0, 1, 0);
        x.statute(3, 0, 499);
        is(x, 2, 0, 9, 4);
        x.year();
        x.look(2, 10000, 0);
        is(x, 2, 1, 1, 0);
        is(x, 2, 0, 9, 4);
        x.statute(2, 0, 3);
        is(x, 2, 1, 1, 0);
        is(x, 2, 0, 9, 4);
        x.statute(2, 0, 4);
        is(x, 2, 1, 9, 3);
        x.statute(3, 0, 0);
        x.statute(2, 0, 0);
        is(x, 2, 1, 9, 4);
        x.sow(1, 1, 1);
        is(x, 3, 1, 1, 0);
        x.look(3, 10000, 1);
        is(x, 3, 1, 9, 4);
    }

    private static void lastClass() {
        CleanSeed x = twoFields(500);
        x.statute(1, 0, 0);
        x.statute(4, 0, 8);
        int mother = 0;
        for (int i = 1; i <= 8; i++) {
            int lot = x.sow(mother, 0, 1);
            x.harvest(lot, 100);
            is(x, lot, i - 1, i, 0);
            mother = lot;
            x.year();
        }
        int ninth = x.sow(mother, 0, 1);
        is(x, ninth, 8, 9, 6);
        x.statute(4, 7, 7);
        is(x, mother, 8, 9, 6);
        is(x, ninth, 8, 9, 7);
        is(x, mother, 7, 8, 0);
        x.statute(4, 0, 0);
        is(x, 2, 8, 9, 6);
        is(x, 2, 7, 1, 0);
    }

    private static void falseMothers() {
        CleanSeed x = twoFields(500);
        x.statute(1, 0, 0);
        x.sow(0, 0, 1);
        x.harvest(2, 100);
        x.mix(2, 10, 1, 10);
        is(x, 3, 0, 1, 0);
        x.mix(3, 5, 0, 5);
        is(x, 4, 0, 1, 0);
        x.year();
        x.sow(4, 0, 1);
        is(x, 5, 1, 2, 0);
        x.prove(1);
        is(x, 3, 0, 1, 0);
        is(x, 3, 1, 9, 7);
        is(x, 4, 1, 9, 7);
        is(x, 5, 1, 9, 7);
        is(x, 2, 1, 1, 0);
        x.prove(4);
        is(x, 4, 1, 9, 5);
        due.is("out now", x.count(7), 4);
    }

    private static void firstReasonCounts() {
        CleanSeed x = new CleanSeed();
        x.field(0, 0, 10, 10);
        x.field(20, 0, 30, 10);
        x.tube(1);
        x.stand(0, 0, 1);
        x.year();
        x.stand(1, 1, 1);
        x.statute(4, 0, 0);
        x.sow(0, 0, 1);
        is(x, 1, 1, 9, 1);
        x.statute(0, 0, 0);
        is(x, 1, 1, 9, 2);
        x.statute(1, 0, 0);
        is(x, 1, 1, 9, 3);
        x.look(1, 1, 1);
        is(x, 1, 1, 9, 4);
        x.statute(3, 0, 1000);
        is(x, 1, 1, 9, 6);
        x.statute(4, 0, 1);
        is(x, 1, 1, 1, 0);
        x.statute(0, 0, 50);
        x.year();
        x.prove(0);
        is(x, 1, 2, 9, 7);
        is(x, 1, 1, 9, 1);
        x.prove(1);
        is(x, 1, 2, 9, 5);
    }

    private static void statutesOfTheYear() {
        CleanSeed x = twoFields(500);
        x.statute(2, 1, 1);
        x.sow(0, 0, 1);
        x.year();
        x.sow(0, 1, 1);
        is(x, 2, 1, 1, 0);
        is(x, 3, 1, 9, 3);
        x.year();
        x.statute(2, 1, 0);
        is(x, 3, 1, 9, 3);
        is(x, 3, 2, 1, 0);
    }

    private static void longRowOfMixedLots() {
        CleanSeed x = new CleanSeed();
        x.tube(1);
        x.tube(1);
        int last = 1;
        for (int i = 2; i < 100; i++) {
            last = x.mix(last, 2, 0, 1);
            due.is("mixed " + i, last, i == 2 ? 2 : i);
        }
        is(x, last, 0, 0, 0);
        x.prove(1);
        is(x, last, 0, 9, 7);
        due.is("all but lot 0", x.count(7), 99);
    }
}
