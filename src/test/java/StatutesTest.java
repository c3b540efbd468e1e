/** Promises 6 and 7: statute, force. */
public final class StatutesTest {
    private static final Due due = new Due("StatutesTest");
    private static final int[] TOPS = {1000, 10, 5, 1000, 8};
    private static final int[] AT_FIRST = {50, 2, 1, 10, 6};

    public static void main(String[] args) {
        atFirst();
        bounds();
        greatestYearCounts();
        asKnown();
        manyStatutes();
        due.end();
    }

    private static void atFirst() {
        CleanSeed x = new CleanSeed();
        for (int kind = 0; kind < 5; kind++) {
            due.is("kind " + kind + " in 0", x.force(kind, 0, 0), AT_FIRST[kind]);
            due.is("kind " + kind + " in 60", x.force(kind, 60, 0), AT_FIRST[kind]);
            due.is("kind " + kind + " in 61", x.force(kind, 61, 0), -1);
            due.is("kind " + kind + " in -1", x.force(kind, -1, 0), -1);
            due.is("kind " + kind + " as known in 1", x.force(kind, 0, 1), -1);
            due.is("kind " + kind + " as known in -1", x.force(kind, 0, -1), -1);
        }
        due.is("kind 5", x.force(5, 0, 0), -1);
        due.is("kind -1", x.force(-1, 0, 0), -1);
        due.is("kind far out", x.force(Integer.MAX_VALUE, 0, 0), -1);
    }

    private static void bounds() {
        CleanSeed x = new CleanSeed();
        int told = 0;
        for (int kind = 0; kind < 5; kind++) {
            due.is("below", x.statute(kind, 0, -1), -1);
            due.is("above", x.statute(kind, 0, TOPS[kind] + 1), -1);
            due.is("lowest", x.statute(kind, 0, 0), ++told);
            due.is("lowest in force", x.force(kind, 0, 0), 0);
            due.is("greatest", x.statute(kind, 0, TOPS[kind]), ++told);
            due.is("greatest in force", x.force(kind, 0, 0), TOPS[kind]);
            due.is("from -1", x.statute(kind, -1, 1), -1);
            due.is("from 61", x.statute(kind, 61, 1), -1);
            due.is("from 60", x.statute(kind, 60, 1), ++told);
            due.is("not yet in 59", x.force(kind, 59, 0), TOPS[kind]);
            due.is("in 60", x.force(kind, 60, 0), 1);
        }
        due.is("kind 5", x.statute(5, 0, 1), -1);
        due.is("kind -1", x.statute(-1, 0, 1), -1);
        due.is("told", x.count(5), told);
    }

    private static void greatestYearCounts() {
        CleanSeed x = new CleanSeed();
        x.statute(0, 10, 100);
        x.statute(0, 5, 200);
        x.statute(0, 10, 300);
        x.statute(0, 3, 400);
        due.is("ahead of all", x.force(0, 2, 0), 50);
        due.is("in 3", x.force(0, 3, 0), 400);
        due.is("in 4", x.force(0, 4, 0), 400);
        due.is("in 5", x.force(0, 5, 0), 200);
        due.is("in 9", x.force(0, 9, 0), 200);
        due.is("in 10, told last", x.force(0, 10, 0), 300);
        due.is("in 60", x.force(0, 60, 0), 300);
        due.is("other kinds", x.force(3, 60, 0), 10);
    }

    private static void asKnown() {
        CleanSeed x = new CleanSeed();
        x.statute(1, 2, 7);
        x.year();
        x.statute(1, 2, 8);
        x.statute(1, 0, 9);
        x.year();
        x.statute(1, 1, 4);
        due.is("in 0 as known in 0", x.force(1, 0, 0), 2);
        due.is("in 0 as known in 1", x.force(1, 0, 1), 9);
        due.is("in 1 as known in 1", x.force(1, 1, 1), 9);
        due.is("in 1 as known in 2", x.force(1, 1, 2), 4);
        due.is("in 2 as known in 0", x.force(1, 2, 0), 7);
        due.is("in 2 as known in 1", x.force(1, 2, 1), 8);
        due.is("in 2 as known in 2", x.force(1, 2, 2), 8);
        due.is("as known in 3", x.force(1, 2, 3), -1);
    }

    private static void manyStatutes() {
        CleanSeed x = new CleanSeed();
        for (int i = 1; i <= 100; i++) {
            due.is("statute " + i, x.statute(i % 2 * 3, 0, i), i);
        }
        due.is("statute 101", x.statute(0, 0, 1), -1);
        due.is("100 told", x.count(5), 100);
        due.is("the last of its kind", x.force(0, 0, 0), 100);
        due.is("the last of the other kind", x.force(3, 0, 0), 99);
    }
}
