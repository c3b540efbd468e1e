/** Promises 1 to 5: a new object, field, near, stand, stands. */
public final class FieldsTest {
    private static final Due due = new Due("FieldsTest");

    public static void main(String[] args) {
        newObject();
        corners();
        manyFields();
        nearness();
        standing();
        standingAsKnown();
        lotsBeforeTellings();
        manyTellings();
        due.end();
    }

    private static void newObject() {
        CleanSeed x = new CleanSeed();
        for (int what = 0; what <= 8; what++) {
            due.is("new count(" + what + ")", x.count(what), 0);
        }
        due.is("new told", x.told(0, 0), -1);
        due.is("new sack", x.sack(0, 0), -1);
        due.is("new near", x.near(0, 0), -1);
        due.is("new stands", x.stands(0, 0, 0), -1);
        due.is("new plan", x.plan(0), -1);
        due.is("NONE", CleanSeed.NONE, -1);
        CleanSeed other = new CleanSeed();
        other.tube(1);
        due.is("objects are apart", x.count(2), 0);
    }

    private static void corners() {
        CleanSeed x = new CleanSeed();
        due.is("whole land", x.field(0, 0, 1000, 1000), 0);
        due.is("other way round", x.field(1000, 0, 999, 1), 1);
        due.is("no width", x.field(5, 0, 5, 9), -1);
        due.is("no height", x.field(0, 9, 5, 9), -1);
        due.is("a point", x.field(9, 9, 9, 9), -1);
        due.is("x below", x.field(-1, 0, 5, 5), -1);
        due.is("y below", x.field(0, -1, 5, 5), -1);
        due.is("u below", x.field(0, 0, -5, 5), -1);
        due.is("v below", x.field(0, 0, 5, -5), -1);
        due.is("x above", x.field(1001, 0, 5, 5), -1);
        due.is("y above", x.field(0, 1001, 5, 5), -1);
        due.is("u above", x.field(0, 0, 1001, 5), -1);
        due.is("v above", x.field(0, 0, 5, 1001), -1);
        due.is("refused ones change nothing", x.count(1), 2);
        due.is("the same box again", x.field(0, 0, 1000, 1000), 2);
    }

    private static void manyFields() {
        CleanSeed x = new CleanSeed();
        for (int i = 0; i < 40; i++) {
            due.is("field " + i, x.field(i, 0, i + 1, 1), i);
        }
        due.is("field 40", x.field(0, 0, 1, 1), -1);
        due.is("40 fields", x.count(1), 40);
        due.is("the last one stands", x.stands(39, 0, 0), 0);
        due.is("near the last one", x.near(0, 39), 38 * 38);
        due.is("none behind it", x.near(0, 40), -1);
    }

    private static void nearness() {
        CleanSeed x = new CleanSeed();
        x.field(100, 100, 200, 200);
        x.field(203, 204, 300, 300);
        x.field(50, 300, 97, 206);
        x.field(200, 100, 250, 200);
        x.field(150, 150, 160, 160);
        x.field(200, 200, 210, 210);
        x.field(120, 0, 130, 93);
        x.field(0, 0, 1, 1);
        x.field(999, 999, 1000, 1000);
        due.is("itself", x.near(0, 0), 0);
        due.is("over a corner", x.near(0, 1), 25);
        due.is("the other way", x.near(1, 0), 25);
        due.is("over another corner", x.near(0, 2), 45);
        due.is("side by side", x.near(0, 3), 0);
        due.is("inside", x.near(0, 4), 0);
        due.is("at a corner", x.near(0, 5), 0);
        due.is("straight along an axis", x.near(0, 6), 49);
        due.is("farthest", x.near(7, 8), 2 * 998 * 998);
        due.is("no such", x.near(0, 9), -1);
        due.is("no such", x.near(9, 0), -1);
        due.is("no such", x.near(-1, 0), -1);
        due.is("no such", x.near(0, Integer.MIN_VALUE), -1);
    }

    private static void standing() {
        CleanSeed x = new CleanSeed();
        x.field(0, 0, 1, 1);
        due.is("nothing at first", x.stands(0, 0, 0), 0);
        due.is("told", x.stand(0, 0, 4), true);
        due.is("stands", x.stands(0, 0, 0), 4);
        due.is("told again", x.stand(0, 0, 2), true);
        due.is("stands anew", x.stands(0, 0, 0), 2);
        due.is("told nothing", x.stand(0, 0, 0), true);
        due.is("stands with nothing", x.stands(0, 0, 0), 0);
        due.is("crop 5", x.stand(0, 0, 5), false);
        due.is("crop -1", x.stand(0, 0, -1), false);
        due.is("no such field", x.stand(1, 0, 1), false);
        due.is("no such field", x.stand(-1, 0, 1), false);
        due.is("next year", x.stand(0, 1, 1), false);
        due.is("year -1", x.stand(0, -1, 1), false);
        due.is("nothing changed", x.stands(0, 0, 0), 0);
        due.is("asked of no field", x.stands(1, 0, 0), -1);
        due.is("asked of next year", x.stands(0, 1, 0), -1);
        due.is("asked as known next year", x.stands(0, 0, 1), -1);
        due.is("asked of year -1", x.stands(0, -1, 0), -1);
        due.is("asked as known in -1", x.stands(0, 0, -1), -1);
    }

    private static void standingAsKnown() {
        CleanSeed x = new CleanSeed();
        x.field(0, 0, 1, 1);
        x.field(2, 0, 3, 1);
        x.stand(0, 0, 1);
        x.year();
        x.stand(0, 0, 2);
        x.stand(0, 0, 3);
        x.year();
        x.stand(0, 1, 4);
        due.is("as known in 0", x.stands(0, 0, 0), 1);
        due.is("as known in 1, the last one", x.stands(0, 0, 1), 3);
        due.is("as known in 2", x.stands(0, 0, 2), 3);
        due.is("year 1, not known in 0", x.stands(0, 1, 0), 0);
        due.is("year 1, not known in 1", x.stands(0, 1, 1), 0);
        due.is("year 1, known in 2", x.stands(0, 1, 2), 4);
        due.is("another field", x.stands(1, 0, 2), 0);
        for (int i = 2; i < 40; i++) {
            x.year();
        }
        due.is("the last year is told", x.stand(1, 40, 2), true);
        due.is("in the last year", x.stands(1, 40, 40), 2);
        due.is("as known ahead of it", x.stands(1, 40, 39), 0);
        due.is("year 41", x.stand(1, 41, 2), false);
    }

    private static void lotsBeforeTellings() {
        CleanSeed x = new CleanSeed();
        x.field(0, 0, 1, 1);
        x.tube(3);
        x.year();
        x.stand(0, 1, 1);
        x.sow(0, 0, 1);
        due.is("the lot, not what was told", x.stands(0, 1, 1), 3);
        x.stand(0, 1, 2);
        due.is("the lot, though told later", x.stands(0, 1, 1), 3);
        due.is("the lot is not known in 0", x.stands(0, 1, 0), 0);
        due.is("the lot stood not in 0", x.stands(0, 0, 1), 0);
        x.year();
        due.is("nor stands it in 2", x.stands(0, 2, 2), 0);
        due.is("known later too", x.stands(0, 1, 2), 3);
    }

    private static void manyTellings() {
        CleanSeed x = new CleanSeed();
        x.field(0, 0, 1, 1);
        for (int i = 0; i < 300; i++) {
            due.is("telling " + i, x.stand(0, 0, i % 5), true);
        }
        due.is("telling 300", x.stand(0, 0, 1), false);
        due.is("the last one counts", x.stands(0, 0, 0), 4);
    }
}
