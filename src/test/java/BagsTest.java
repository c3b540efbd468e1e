/** Promises 12 to 15 and 29: bag, open, seal, sell, sack. */
public final class BagsTest {
    private static final Due due = new Due("BagsTest");

    public static void main(String[] args) {
        bagging();
        bagsOfFalseLots();
        sealsAndSales();
        manyBags();
        due.end();
    }

    private static void bagging() {
        CleanSeed x = new CleanSeed();
        x.tube(1);
        due.is("no lot", x.bag(1, 1), -1);
        due.is("lot -1", x.bag(-1, 1), -1);
        due.is("0 grams", x.bag(0, 0), -1);
        due.is("-1 grams", x.bag(0, -1), -1);
        due.is("101 grams", x.bag(0, 101), -1);
        due.is("no seal used", x.count(4), 0);
        due.is("30 grams", x.bag(0, 30), 0);
        due.is("71 of 70", x.bag(0, 71), -1);
        due.is("70 grams", x.bag(0, 70), 1);
        due.is("bagged", x.told(0, 10), 100);
        due.is("left", x.told(0, 2), 0);
        due.is("lot", x.sack(1, 0), 0);
        due.is("grams", x.sack(1, 1), 70);
        due.is("seal", x.sack(1, 2), 2);
        due.is("buyer", x.sack(1, 3), -1);
        due.is("what 4", x.sack(1, 4), -1);
        due.is("what -1", x.sack(1, -1), -1);
        due.is("bag 2", x.sack(2, 0), -1);
        due.is("bag -1", x.sack(-1, 0), -1);
        due.is("bags", x.count(3), 2);
        due.is("seals", x.count(4), 2);
    }

    private static void bagsOfFalseLots() {
        CleanSeed x = new CleanSeed();
        x.field(0, 0, 1, 1);
        x.tube(1);
        x.sow(0, 0, 1);
        x.harvest(1, 100);
        due.is("not looked at", x.bag(1, 1), -1);
        due.is("nothing bagged", x.told(1, 10), 0);
        x.look(1, 100, 0);
        due.is("looked at", x.bag(1, 1), 0);
        due.is("opened", x.open(0), true);
        x.prove(0);
        due.is("its mother is false", x.bag(1, 1), -1);
        due.is("no new seal", x.seal(0), -1);
        due.is("seal 0", x.sack(0, 2), 0);
        due.is("one seal so far", x.count(4), 1);

        CleanSeed y = new CleanSeed();
        y.tube(1);
        y.bag(0, 1);
        y.prove(0);
        due.is("a false tube", y.bag(0, 1), -1);
        due.is("a bag of it may still be sold", y.sell(0, 0), true);
        due.is("and opened", y.open(0), true);

        CleanSeed z = new CleanSeed();
        z.field(0, 0, 1, 1);
        z.tube(1);
        z.sow(0, 0, 1);
        z.harvest(1, 10);
        z.look(1, 100, 0);
        z.year();
        z.look(1, 100, 100);
        due.is("as known in 0", z.judge(1, 0), 1);
        due.is("as known now it is out", z.bag(1, 1), -1);
    }

    private static void sealsAndSales() {
        CleanSeed x = new CleanSeed();
        x.tube(1);
        x.bag(0, 1);
        x.bag(0, 2);
        due.is("no bag is opened", x.open(2), false);
        due.is("bag -1 is opened", x.open(-1), false);
        due.is("no bag is sealed", x.seal(2), -1);
        due.is("bag -1 is sealed", x.seal(-1), -1);
        due.is("no bag is sold", x.sell(2, 0), false);
        due.is("bag -1 is sold", x.sell(-1, 0), false);
        due.is("sealed already", x.seal(0), -1);
        due.is("opened", x.open(0), true);
        due.is("opened already", x.open(0), false);
        due.is("its seal is gone", x.sack(0, 2), 0);
        due.is("opened, not sold", x.sell(0, 0), false);
        due.is("sealed anew", x.seal(0), 3);
        due.is("its seal", x.sack(0, 2), 3);
        due.is("the other's seal", x.sack(1, 2), 2);
        due.is("its grams", x.sack(0, 1), 1);
        due.is("buyer -1", x.sell(0, -1), false);
        due.is("buyer 20", x.sell(0, 20), false);
        due.is("not sold yet", x.sack(0, 3), -1);
        due.is("buyer 19", x.sell(0, 19), true);
        due.is("sold to", x.sack(0, 3), 19);
        due.is("sold already", x.sell(0, 0), false);
        due.is("buyer 0", x.sell(1, 0), true);
        due.is("sold to", x.sack(1, 3), 0);
        due.is("a sold one is opened", x.open(1), true);
        due.is("a sold one is not sealed", x.seal(1), -1);
        due.is("it is opened still", x.sack(1, 2), 0);
        due.is("three seals", x.count(4), 3);
    }

    private static void manyBags() {
        CleanSeed x = new CleanSeed();
        x.tube(1);
        x.tube(1);
        x.tube(1);
        for (int i = 0; i < 200; i++) {
            due.is("bag " + i, x.bag(i / 100, 1), i);
        }
        due.is("bag 200", x.bag(2, 1), -1);
        due.is("nothing bagged", x.told(2, 2), 100);
        due.is("200 bags", x.count(3), 200);
        due.is("200 seals", x.count(4), 200);
        due.is("its lot", x.sack(199, 0), 1);
        x.open(199);
        due.is("seal 201", x.seal(199), 201);
    }
}
