/** Promises 8 to 11, 16, 17 and 28: tube, sow, harvest, mix, toss, look, told. */
public final class LotsTest {
    private static final Due due = new Due("LotsTest");

    public static void main(String[] args) {
        tubes();
        manyLots();
        sowing();
        sowingRefused();
        harvesting();
        mixing();
        tossing();
        looking();
        manyLooks();
        due.end();
    }

    private static void all(CleanSeed x, int lot, int... want) {
        for (int what = 0; what < want.length; what++) {
            due.is("told(" + lot + ", " + what + ")", x.told(lot, what), want[what]);
        }
    }

    private static void tubes() {
        CleanSeed x = new CleanSeed();
        due.is("crop 0", x.tube(0), -1);
        due.is("crop 5", x.tube(5), -1);
        due.is("crop -1", x.tube(-1), -1);
        due.is("crop 1", x.tube(1), 0);
        due.is("crop 4", x.tube(4), 1);
        x.year();
        due.is("later", x.tube(2), 2);
        all(x, 0, 0, 1, 100, 0, -1, -1, -1, 100, 0, 0, 0, 0, 0, -1);
        all(x, 1, 0, 4, 100, 0, -1, -1, -1, 100, 0, 0, 0, 0, 0, -1);
        all(x, 2, 0, 2, 100, 1, -1, -1, -1, 100, 0, 0, 0, 0, 0, -1);
        all(x, 3, -1, -1, -1, -1, -1, -1, -1, -1, -1, -1, -1, -1, -1, -1);
        due.is("told 14", x.told(0, 14), -1);
        due.is("told -1", x.told(0, -1), -1);
        due.is("told of lot -1", x.told(-1, 0), -1);
    }

    private static void manyLots() {
        CleanSeed x = new CleanSeed();
        x.field(0, 0, 1, 1);
        for (int i = 0; i < 200; i++) {
            due.is("tube " + i, x.tube(1), i);
        }
        due.is("tube 200", x.tube(1), -1);
        due.is("sow 200", x.sow(0, 0, 1), -1);
        due.is("mix 200", x.mix(0, 1, 1, 1), -1);
        due.is("grams are there still", x.told(0, 2), 100);
        due.is("the field is free", x.stands(0, 0, 0), 0);
        due.is("200 lots", x.count(2), 200);
        due.is("the last one", x.told(199, 0), 0);
        due.is("none behind it", x.told(200, 0), -1);
    }

    private static void sowing() {
        CleanSeed x = new CleanSeed();
        x.field(0, 0, 1, 1);
        x.field(2, 0, 3, 1);
        x.tube(3);
        due.is("all of it", x.sow(0, 1, 100), 1);
        all(x, 0, 0, 3, 0, 0, -1, -1, -1, 100, 100, 0, 0, 0, 0, -1);
        all(x, 1, 1, 3, 0, 0, 1, 0, -1, -1, 0, 0, 0, 0, 0, -1);
        due.is("nothing is left", x.sow(0, 0, 1), -1);
        due.is("it stands", x.stands(1, 0, 0), 3);
        due.is("the other stands not", x.stands(0, 0, 0), 0);
        x.year();
        due.is("not harvested, no grams", x.sow(1, 1, 1), -1);
        x.harvest(1, 50);
        due.is("the field is free in the next year", x.sow(1, 1, 20), 2);
        all(x, 2, 1, 3, 0, 1, 1, 1, -1, -1, 0, 0, 0, 0, 0, -1);
        all(x, 1, 1, 3, 30, 0, 1, 0, -1, 50, 20, 0, 0, 0, 0, -1);
    }

    private static void sowingRefused() {
        CleanSeed x = new CleanSeed();
        x.field(0, 0, 1, 1);
        x.field(2, 0, 3, 1);
        x.field(4, 0, 5, 1);
        x.tube(1);
        x.tube(1);
        due.is("lot 2", x.sow(2, 0, 1), -1);
        due.is("lot -1", x.sow(-1, 0, 1), -1);
        due.is("field 3", x.sow(0, 3, 1), -1);
        due.is("field -1", x.sow(0, -1, 1), -1);
        due.is("0 grams", x.sow(0, 0, 0), -1);
        due.is("-1 grams", x.sow(0, 0, -1), -1);
        due.is("101 grams", x.sow(0, 0, 101), -1);
        due.is("no lot came", x.count(2), 2);
        due.is("sown", x.sow(0, 0, 1), 2);
        due.is("the field has a lot", x.sow(1, 0, 1), -1);
        due.is("nothing sown of it", x.told(1, 8), 0);
        x.harvest(2, 10);
        due.is("a field lot of this year", x.sow(2, 1, 1), -1);
        due.is("mixed", x.mix(0, 10, 1, 10), 3);
        due.is("a mixed lot of this year", x.sow(3, 1, 1), -1);
        due.is("a tube of this year", x.sow(1, 1, 1), 4);
        x.year();
        due.is("a field lot of last year", x.sow(2, 1, 1), 5);
        due.is("a mixed lot of last year", x.sow(3, 0, 1), 6);
        x.prove(0);
        due.is("a false lot may be sown", x.sow(0, 2, 1), 7);
    }

    private static void harvesting() {
        CleanSeed x = new CleanSeed();
        x.field(0, 0, 1, 1);
        x.field(2, 0, 3, 1);
        x.tube(1);
        x.tube(1);
        x.sow(0, 0, 1);
        x.sow(0, 1, 1);
        x.mix(0, 1, 1, 1);
        due.is("a tube", x.harvest(0, 5), false);
        due.is("a mixed lot", x.harvest(4, 5), false);
        due.is("no lot", x.harvest(5, 5), false);
        due.is("lot -1", x.harvest(-1, 5), false);
        due.is("0 grams", x.harvest(2, 0), false);
        due.is("-1 grams", x.harvest(2, -1), false);
        due.is("100001 grams", x.harvest(2, 100001), false);
        due.is("no grams yet", x.told(2, 2), 0);
        due.is("none at first, as none were harvested", x.told(2, 7), -1);
        due.is("100000 grams", x.harvest(2, 100000), true);
        due.is("grams", x.told(2, 2), 100000);
        due.is("at first", x.told(2, 7), 100000);
        due.is("again", x.harvest(2, 1), false);
        x.toss(2, 100000);
        due.is("again when all is gone", x.harvest(2, 1), false);
        due.is("at first still", x.told(2, 7), 100000);
        x.year();
        due.is("in a later year", x.harvest(3, 1), true);
        due.is("one gram", x.told(3, 2), 1);
        due.is("it came in 0", x.told(3, 3), 0);
    }

    private static void mixing() {
        CleanSeed x = new CleanSeed();
        x.tube(1);
        x.tube(1);
        x.tube(2);
        due.is("crops", x.mix(0, 1, 2, 1), -1);
        due.is("the same", x.mix(0, 1, 0, 1), -1);
        due.is("no one", x.mix(3, 1, 0, 1), -1);
        due.is("no other", x.mix(0, 1, 3, 1), -1);
        due.is("one -1", x.mix(-1, 1, 0, 1), -1);
        due.is("other -1", x.mix(0, 1, -1, 1), -1);
        due.is("0 of one", x.mix(0, 0, 1, 1), -1);
        due.is("0 of the other", x.mix(0, 1, 1, 0), -1);
        due.is("-1 of one", x.mix(0, -1, 1, 1), -1);
        due.is("too much of one", x.mix(0, 101, 1, 1), -1);
        due.is("too much of the other", x.mix(0, 1, 1, 101), -1);
        all(x, 0, 0, 1, 100, 0, -1, -1, -1, 100, 0, 0, 0, 0, 0, -1);
        x.year();
        due.is("mixed", x.mix(1, 100, 0, 30), 3);
        all(x, 0, 0, 1, 70, 0, -1, -1, -1, 100, 0, 30, 0, 0, 0, -1);
        all(x, 1, 0, 1, 0, 0, -1, -1, -1, 100, 0, 100, 0, 0, 0, -1);
        all(x, 3, 2, 1, 130, 1, -1, 1, 0, 130, 0, 0, 0, 0, 0, -1);
        due.is("mixed again", x.mix(3, 5, 0, 5), 4);
        all(x, 4, 2, 1, 10, 1, -1, 3, 0, 10, 0, 0, 0, 0, 0, -1);
    }

    private static void tossing() {
        CleanSeed x = new CleanSeed();
        x.tube(1);
        due.is("no lot", x.toss(1, 1), false);
        due.is("lot -1", x.toss(-1, 1), false);
        due.is("0 grams", x.toss(0, 0), false);
        due.is("-5 grams", x.toss(0, -5), false);
        due.is("101 grams", x.toss(0, 101), false);
        due.is("1 gram", x.toss(0, 1), true);
        due.is("99 are left", x.told(0, 2), 99);
        due.is("100 of 99", x.toss(0, 100), false);
        due.is("99 grams", x.toss(0, 99), true);
        all(x, 0, 0, 1, 0, 0, -1, -1, -1, 100, 0, 0, 0, 100, 0, -1);
    }

    private static void looking() {
        CleanSeed x = new CleanSeed();
        x.field(0, 0, 1, 1);
        x.field(2, 0, 3, 1);
        x.tube(1);
        x.tube(1);
        x.sow(0, 0, 1);
        x.sow(1, 1, 1);
        x.mix(0, 1, 1, 1);
        due.is("a tube", x.look(0, 10, 0), -1);
        due.is("a mixed lot", x.look(4, 10, 0), -1);
        due.is("no lot", x.look(5, 10, 0), -1);
        due.is("lot -1", x.look(-1, 10, 0), -1);
        due.is("0 plants", x.look(2, 0, 0), -1);
        due.is("10001 plants", x.look(2, 10001, 0), -1);
        due.is("ill -1", x.look(2, 10, -1), -1);
        due.is("ill 11 of 10", x.look(2, 10, 11), -1);
        due.is("none told", x.told(2, 12), 0);
        due.is("1 plant, ill", x.look(2, 1, 1), 1);
        due.is("10000 plants, none ill", x.look(2, 10000, 0), 2);
        due.is("all ill", x.look(2, 10000, 10000), 3);
        due.is("of the other lot", x.look(3, 10, 0), 1);
        x.year();
        due.is("in a later year", x.look(2, 10, 0), 4);
        due.is("looks at lot 2", x.told(2, 12), 4);
        due.is("looks at lot 3", x.told(3, 12), 1);
        due.is("all looks", x.count(6), 5);
        x.prove(2);
        due.is("told false", x.told(2, 13), 1);
    }

    private static void manyLooks() {
        CleanSeed x = new CleanSeed();
        x.field(0, 0, 1, 1);
        x.field(500, 0, 501, 1);
        x.tube(1);
        x.sow(0, 0, 1);
        x.sow(0, 1, 1);
        // Sums of ill plants times 1000 leave the range of int here.
        for (int i = 1; i <= 299; i++) {
            due.is("look " + i, x.look(1, 10000, 10000), i);
        }
        due.is("ill", x.why(1, 0), 4);
        due.is("look 300", x.look(2, 1, 0), 1);
        due.is("look 301", x.look(2, 1, 0), -1);
        due.is("300 looks", x.count(6), 300);
        x.statute(3, 0, 1000);
        due.is("a thousand in a thousand may be ill", x.judge(1, 0), 1);
        x.statute(3, 0, 999);
        due.is("999 in a thousand", x.why(1, 0), 4);
    }
}
