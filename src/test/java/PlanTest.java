/** Promises 26, 27 and 30: want, plan, count. */
public final class PlanTest {
    private static final Due due = new Due("PlanTest");

    public static void main(String[] args) {
        wanting();
        moreGoBeforeLowerFields();
        cropsAndDistances();
        yearsAhead();
        sixFields();
        counting();
        due.end();
    }

    private static void plan(String name, CleanSeed x, int... want) {
        for (int i = 0; i < want.length; i++) {
            due.is(name + ": plan(" + i + ")", x.plan(i), want[i]);
        }
        due.is(name + ": behind", x.plan(want.length), -1);
        due.is(name + ": plan(-1)", x.plan(-1), -1);
    }

    private static void wanting() {
        CleanSeed x = new CleanSeed();
        due.is("no lot", x.want(0), -1);
        due.is("none", x.want(-1), 0);
        for (int i = 0; i < 7; i++) {
            x.tube(1);
        }
        due.is("4 first", x.want(4), 1);
        due.is("4 again", x.want(4), -1);
        due.is("-2", x.want(-2), -1);
        due.is("7", x.want(7), -1);
        due.is("0", x.want(0), 2);
        due.is("1", x.want(1), 3);
        due.is("2", x.want(2), 4);
        due.is("3", x.want(3), 5);
        due.is("full", x.want(5), -1);
        due.is("told", x.count(8), 5);
        plan("no fields", x, -1, -1, -1, -1, -1);
        due.is("none", x.want(-1), 0);
        due.is("none told", x.count(8), 0);
        plan("none", x);
        due.is("5", x.want(5), 1);
        due.is("4 anew", x.want(4), 2);
    }

    private static void moreGoBeforeLowerFields() {
        CleanSeed x = new CleanSeed();
        x.field(0, 0, 1, 1);
        x.field(500, 0, 501, 1);
        x.tube(1);
        x.tube(2);
        x.want(0);
        x.want(1);
        plan("in turn", x, 0, 1);
        x.stand(1, 0, 2);
        plan("the first makes room", x, 1, 0);
        x.stand(1, 0, 1);
        plan("the first may not", x, 0, 1);
        x.stand(0, 0, 1);
        plan("the first goes nowhere", x, -1, 0);
        x.want(-1);
        x.want(1);
        x.want(0);
        plan("the other way round", x, 0, -1);
    }

    private static void cropsAndDistances() {
        CleanSeed x = new CleanSeed();
        x.field(0, 0, 10, 10);
        x.field(40, 0, 50, 10);
        x.field(80, 0, 90, 10);
        x.tube(1);
        x.tube(1);
        x.tube(2);
        x.want(0);
        x.want(1);
        x.want(2);
        plan("30 is too near", x, 0, 2, 1);
        x.statute(0, 1, 30);
        plan("30 is not nearer than 30", x, 0, 1, 2);
        x.statute(0, 2, 1000);
        plan("a statute from the year behind the next", x, 0, 1, 2);
        x.statute(0, 1, 31);
        plan("30 is nearer than 31", x, 0, 2, 1);
        x.statute(0, 1, 71);
        plan("one of crop 1", x, 0, -1, 1);
        x.statute(0, 1, 0);
        plan("0: side by side", x, 0, 1, 2);
        x.tube(3);
        x.want(3);
        plan("no field for the last", x, 0, 1, 2, -1);
    }

    private static void yearsAhead() {
        CleanSeed x = new CleanSeed();
        x.field(0, 0, 10, 10);
        x.field(500, 0, 510, 10);
        x.tube(1);
        x.want(0);
        x.sow(0, 0, 1);
        plan("grown this year", x, 1);
        x.year();
        plan("grown a year ago", x, 1);
        x.year();
        plan("grown two years ago", x, 0);
        x.statute(1, 3, 3);
        plan("three years", x, 1);
        x.stand(1, 0, 1);
        plan("both stood", x, -1);
        x.statute(1, 3, 0);
        plan("no years", x, 0);
        for (int i = 2; i < 40; i++) {
            x.year();
        }
        plan("in the last year", x, 0);
        x.statute(1, 41, 1);
        x.stand(0, 40, 1);
        plan("for the year behind it", x, 1);
    }

    private static void sixFields() {
        CleanSeed x = new CleanSeed();
        for (int i = 0; i < 7; i++) {
            x.field(i * 100, 0, i * 100 + 10, 10);
        }
        for (int i = 0; i < 5; i++) {
            x.tube(1);
            x.want(i);
        }
        plan("five of six", x, 0, 1, 2, 3, 4);
        x.stand(0, 0, 1);
        plan("the others", x, 1, 2, 3, 4, 5);
        x.stand(1, 0, 1);
        plan("not the seventh", x, 2, 3, 4, 5, -1);
        x.statute(0, 0, 200);
        plan("every other", x, 2, 5, -1, -1, -1);
        x.prove(0);
        plan("false ones too", x, 2, 5, -1, -1, -1);
    }

    private static void counting() {
        CleanSeed x = new CleanSeed();
        x.year();
        x.year();
        x.field(0, 0, 10, 10);
        x.tube(1);
        x.tube(1);
        x.tube(1);
        x.sow(0, 0, 1);
        x.look(3, 10, 0);
        x.look(3, 10, 0);
        x.bag(3, 1);
        x.bag(0, 1);
        x.bag(0, 1);
        x.open(0);
        x.seal(0);
        x.statute(0, 0, 0);
        x.want(1);
        x.prove(1);
        x.prove(2);
        int[] want = {2, 1, 4, 2, 3, 1, 2, 2, 1};
        for (int what = 0; what < want.length; what++) {
            due.is("count(" + what + ")", x.count(what), want[what]);
        }
        due.is("count(9)", x.count(9), -1);
        due.is("count(-1)", x.count(-1), -1);
        x.prove(0);
        due.is("all are out", x.count(7), 4);
    }
}
