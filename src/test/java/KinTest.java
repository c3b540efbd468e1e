/** Promises 23 to 25: ways, touched, buyers. */
public final class KinTest {
    private static final Due due = new Due("KinTest");

    public static void main(String[] args) {
        family();
        manyWays();
        buyersOfKin();
        due.end();
    }

    private static void row(CleanSeed x, int lot, int row, int... want) {
        for (int i = 0; i < want.length; i++) {
            due.is("touched(" + lot + ", " + row + ", " + i + ")", x.touched(lot, row, i), want[i]);
        }
        due.is("behind row " + row + " of " + lot, x.touched(lot, row, want.length), -1);
    }

    /** 0, 1: tubes; 2 and 3 of 0; 4 of 1; 5 of 2 and 4; 6 of 5 and 3; 7: a tube alone. */
    private static void family() {
        CleanSeed x = new CleanSeed();
        for (int i = 0; i < 3; i++) {
            x.field(i * 100, 0, i * 100 + 1, 1);
        }
        x.tube(1);
        x.tube(1);
        x.sow(0, 0, 1);
        x.sow(0, 1, 1);
        x.sow(1, 2, 1);
        x.harvest(2, 50);
        x.harvest(3, 50);
        x.harvest(4, 50);
        due.is("5", x.mix(2, 10, 4, 10), 5);
        due.is("6", x.mix(5, 10, 3, 10), 6);
        due.is("7", x.tube(1), 7);

        due.is("itself", x.ways(5, 5), 1);
        due.is("6 to 0", x.ways(6, 0), 2);
        due.is("6 to 1", x.ways(6, 1), 1);
        due.is("2 to 0", x.ways(2, 0), 1);
        due.is("0 to 2", x.ways(0, 2), 0);
        due.is("7 to 0", x.ways(7, 0), 0);
        due.is("no lot", x.ways(8, 0), 0);
        due.is("no other", x.ways(0, 8), 0);
        due.is("lot -1", x.ways(-1, -1), 0);

        row(x, 0, 0, 0, 2, 3, 5, 6);
        row(x, 0, 1);
        row(x, 0, 2);
        row(x, 2, 0, 2, 5, 6);
        row(x, 2, 1, 0);
        row(x, 2, 2, 3);
        row(x, 3, 0, 3, 6);
        row(x, 3, 1, 0);
        row(x, 3, 2, 2, 5);
        row(x, 5, 0, 5, 6);
        row(x, 5, 1, 0, 1, 2, 4);
        row(x, 5, 2);
        row(x, 6, 0, 6);
        row(x, 6, 1, 0, 1, 2, 3, 4, 5);
        row(x, 6, 2);
        row(x, 7, 0, 7);
        row(x, 7, 1);
        row(x, 7, 2);
        row(x, 8, 0);
        row(x, -1, 0);
        row(x, 0, 3);
        row(x, 0, -1);
        due.is("i -1", x.touched(0, 0, -1), -1);
        due.is("i far out", x.touched(0, 0, Integer.MAX_VALUE), -1);
    }

    private static void manyWays() {
        CleanSeed x = new CleanSeed();
        x.tube(1);
        x.tube(1);
        long[] ways = new long[60];
        ways[0] = 0;
        ways[1] = 1;
        for (int i = 2; i < 60; i++) {
            due.is("mixed " + i, x.mix(i - 1, 1, i - 2, 1), i);
            ways[i] = Math.min(1000000, ways[i - 1] + ways[i - 2]);
        }
        due.is("832040", x.ways(30, 1), 832040);
        for (int i = 0; i < 60; i++) {
            due.is("ways " + i, x.ways(i, 1), ways[i]);
        }
    }

    private static void buyersOfKin() {
        CleanSeed x = new CleanSeed();
        x.tube(1);
        x.tube(1);
        x.mix(0, 10, 1, 10);
        x.bag(0, 1);
        x.bag(1, 1);
        x.bag(2, 1);
        x.bag(2, 1);
        x.bag(0, 1);
        due.is("none sold", x.buyers(0), 0);
        x.sell(0, 0);
        x.sell(1, 19);
        x.sell(2, 5);
        x.sell(4, 0);
        due.is("of 0", x.buyers(0), 1 | 1 << 5);
        due.is("of 1", x.buyers(1), 1 << 19 | 1 << 5);
        due.is("of 2", x.buyers(2), 1 << 5);
        x.open(2);
        due.is("of an opened one too", x.buyers(2), 1 << 5);
        x.sell(3, 6);
        due.is("of both", x.buyers(2), 1 << 5 | 1 << 6);
        due.is("no lot", x.buyers(3), 0);
        due.is("lot -1", x.buyers(-1), 0);
    }
}
