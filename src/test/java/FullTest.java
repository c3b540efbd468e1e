import java.util.Random;

/**
 * Rule 7 of LANGUAGE.md: no call throws, for any arguments in any state. An object is filled to all its limits,
 * which takes far more than 512 calls, so what it answers is free, but it keeps no more than the document allows.
 */
public final class FullTest {
    private static final Due due = new Due("FullTest");
    private static final int CALLS = 20000;
    private static final int[] NUMBERS = {Integer.MIN_VALUE, -2, -1, 0, 1, 2, 3, 4, 5, 9, 10, 19, 39, 40, 41, 60, 61,
        99, 100, 198, 199, 200, 500, 1000, 10000, 100000, Integer.MAX_VALUE};
    private static final String[] CALLS_AND_PLACES = {"field 4", "near 2", "stand 3", "stands 3", "statute 3", "force 3",
        "tube 1", "sow 3", "harvest 2", "mix 4", "bag 2", "open 1", "seal 1", "sell 2", "toss 2", "look 3", "drawn 4",
        "prove 1", "year 0", "judge 2", "why 2", "ways 2", "touched 3", "buyers 1", "want 1", "plan 1", "told 2",
        "sack 2", "count 1"};
    /** By what count asks for; SEALS have no limit of their own. */
    private static final int[] LIMITS = {40, 40, 200, 200, Integer.MAX_VALUE, 100, 300, 200, 5};

    public static void main(String[] args) {
        CleanSeed office = full();
        anything(office, new Random(1));
        anything(new CleanSeed(), new Random(2));
        due.end();
    }

    private static CleanSeed full() {
        CleanSeed office = new CleanSeed();
        for (int i = 0; i < 41; i++) {
            office.field(20 * i, 0, 20 * i + 10, 10);
            office.tube(1);
        }
        for (int year = 0; year <= 40; year++) {
            fillYear(office, year);
            office.year();
        }
        for (int i = 0; i < 9; i++) {
            office.want(199 - i);
        }
        for (int what : new int[] {0, 1, 2, 3, 5, 6, 8}) {
            due.is("count(" + what + ") when all is full", office.count(what), LIMITS[what]);
        }
        return office;
    }

    private static void fillYear(CleanSeed office, int year) {
        for (int i = 0; i < 4; i++) {
            int lot = office.sow((year * 7 + i * 3) % 41, (year + i) % 40, 1);
            office.look(lot, 10000, 10000);
            office.look(lot, 10000, 0);
            office.mix(lot - 1, 1, lot - 2, 1);
            office.harvest(lot, 100000);
            office.statute(i, year, 1 + i);
        }
        for (int i = 0; i < 8; i++) {
            office.bag((year + i) % 41, 1);
            office.stand((year + i) % 40, year, 1 + i % 4);
            office.look(41, 10000, i);
        }
    }

    private static void anything(CleanSeed office, Random random) {
        for (int i = 0; i < CALLS; i++) {
            String[] parts = CALLS_AND_PLACES[random.nextInt(CALLS_AND_PLACES.length)].split(" ");
            long[] given = new long[Integer.parseInt(parts[1])];
            for (int place = 0; place < given.length; place++) {
                given[place] = NUMBERS[random.nextInt(NUMBERS.length)];
            }
            Call.of(parts[0], given).on(office);
        }
        for (int what = 0; what < LIMITS.length; what++) {
            due.is("count(" + what + ") is within its limit", office.count(what) <= LIMITS[what], true);
        }
    }
}
