import java.math.BigInteger;

/** Promise 18: drawn. */
public final class DrawTest {
    private static final Due due = new Due("DrawTest");
    private static final BigInteger ROUND = BigInteger.ONE.shiftLeft(64);

    public static void main(String[] args) {
        CleanSeed x = new CleanSeed();
        refusals(x);
        long[] seeds = {0, 1, -1, 77, Long.MIN_VALUE, Long.MAX_VALUE, 123456789012345L};
        int[][] sizes = {{1, 1}, {2, 2}, {5, 3}, {40, 40}, {41, 40}, {100, 7}, {500, 40}};
        for (long seed : seeds) {
            for (int[] size : sizes) {
                int[] want = drawAll(size[0], size[1], seed);
                for (int i = 0; i < size[1]; i++) {
                    String call = "drawn(" + size[0] + ", " + size[1] + ", " + seed + ", " + i + ")";
                    due.is(call, x.drawn(size[0], size[1], seed, i), want[i]);
                }
            }
        }
        due.is("nothing changed", x.count(0), 0);
        due.end();
    }

    private static void refusals(CleanSeed x) {
        due.is("n 0", x.drawn(0, 0, 1, 0), -1);
        due.is("n 0, k 1", x.drawn(0, 1, 1, 0), -1);
        due.is("n -1", x.drawn(-1, -1, 1, -1), -1);
        due.is("n 501", x.drawn(501, 1, 1, 0), -1);
        due.is("k 0", x.drawn(5, 0, 1, 0), -1);
        due.is("k -1", x.drawn(5, -1, 1, 0), -1);
        due.is("k above n", x.drawn(5, 6, 1, 0), -1);
        due.is("k 41", x.drawn(500, 41, 1, 0), -1);
        due.is("i -1", x.drawn(5, 2, 1, -1), -1);
        due.is("i k", x.drawn(5, 2, 1, 2), -1);
        due.is("i far out", x.drawn(5, 2, 1, Integer.MAX_VALUE), -1);
    }

    /** All draws with whole numbers, going round at 2 to the 64th. */
    private static int[] drawAll(int n, int k, long seed) {
        int[] line = new int[n];
        for (int i = 0; i < n; i++) {
            line[i] = i;
        }
        BigInteger x = BigInteger.valueOf(seed).mod(ROUND);
        for (int j = 0; j < k; j++) {
            x = x.multiply(new BigInteger("6364136223846793005"))
                    .add(new BigInteger("1442695040888963407")).mod(ROUND);
            int place = j + x.shiftRight(33).mod(BigInteger.valueOf(n - j)).intValueExact();
            int moved = line[place];
            line[place] = line[j];
            line[j] = moved;
        }
        return line;
    }
}
