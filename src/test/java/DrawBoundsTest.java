/** The boundary cases of promise 18: drawn, with answers that were worked out apart from any Java. */
public final class DrawBoundsTest {
    private static final Due due = new Due("DrawBoundsTest");
    private static final int MIN = Integer.MIN_VALUE;
    private static final int MAX = Integer.MAX_VALUE;

    public static void main(String[] args) {
        rows();
        howManyAreDrawn();
        whichOfThese();
        goingRound();
        lastDraws();
        due.end();
    }

    private static Run run(String name) {
        return new Run(due, name);
    }

    /** n rows (1 .. 500). */
    private static void rows() {
        Run run = run("18: n rows (1 .. 500)");
        run.refusedWith("drawn(#, 1, 0, 0)", 0, -1, 501, MIN, MAX).refusedWith("drawn(#, 0, 0, 0)", 0, -1, 501, MIN, MAX);
        run.is("drawn(1, 1, 0, 0)", 0).is("drawn(500, 1, 0, 0)", 307).end();
    }

    /** k (0 .. n, 40 at most) are drawn. */
    private static void howManyAreDrawn() {
        Run run = run("18: k (0 .. n, 40 at most)");
        run.refusedWith("drawn(5, #, 0, 0)", 0, -1, 6, 40, 41, MIN, MAX).is("drawn(5, 1, 0, 0)", 2).is("drawn(5, 5, 0, 0)", 2);
        run.refused("drawn(1, 0, 0, 0)", "drawn(1, 2, 0, 0)", "drawn(39, 40, 7, 0)", "drawn(40, 41, 7, 0)");
        run.is("drawn(40, 40, 7, 0)", 38).refused("drawn(41, 41, 7, 0)").is("drawn(41, 40, 7, 0)", 19);
        run.refusedWith("drawn(500, #, 7, 0)", 0, -1, 41, 500, MIN, MAX).is("drawn(500, 40, 7, 0)", 278).end();
    }

    /** NONE: i not 0 .. k - 1. */
    private static void whichOfThese() {
        Run run = run("18: i not 0 .. k - 1");
        run.refusedWith("drawn(5, 5, 0, #)", -1, 5, 6, MIN, MAX).refusedWith("drawn(5, 0, 0, #)", -1, 0, 1, MIN, MAX);
        run.refusedWith("drawn(5, 2, 0, #)", -1, 2, 3, 4, MIN, MAX).refusedWith("drawn(1, 1, 0, #)", -1, 1, MIN, MAX);
        int[] want = {2, 1, 3, 0, 4};
        for (int i = 0; i < 5; i++) {
            run.is("drawn(5, 5, 0, " + i + ")", want[i]);
            run.is("drawn(5, " + (i + 1) + ", 0, " + i + ")", want[i]);
        }
        run.end();
    }

    /** 64 bits, going round; shifted right by 33, without sign. */
    private static void goingRound() {
        Run run = run("18: going round");
        long[] seeds = {0, 1, -1, Long.MAX_VALUE, Long.MIN_VALUE};
        int[][] want = {{307, 93, 9, 75}, {274, 426, 428, 306}, {488, 481, 87, 341}, {164, 370, 47, 6},
            {131, 204, 467, 237}};
        for (int s = 0; s < seeds.length; s++) {
            for (int i = 0; i < 4; i++) {
                run.is("drawn(500, 4, " + seeds[s] + ", " + i + ")", want[s][i]);
            }
        }
        run.end();
    }

    /** For j from 0 to k - 1: the last of all that may be drawn; no row twice. */
    private static void lastDraws() {
        Run run = run("18: j to k - 1");
        run.is("drawn(500, 40, 7, 39)", 186).is("drawn(40, 40, 7, 39)", 15).is("drawn(41, 40, 7, 39)", 7);
        run.is("drawn(2, 2, 0, 0)", 1).is("drawn(2, 2, 0, 1)", 0).is("drawn(2, 2, -1, 0)", 0).is("drawn(2, 2, -1, 1)", 1);
        run.end();
        CleanSeed office = new CleanSeed();
        boolean[] seen = new boolean[40];
        for (int i = 0; i < 40; i++) {
            int row = office.drawn(40, 40, -77, i);
            due.is("row " + i + " of 40 is a new one", row >= 0 && row < 40 && !seen[row], true);
            seen[row] = true;
        }
    }
}
