import java.util.ArrayList;
import java.util.List;

/** The questions that together show what an object holds. */
final class Census {
    /** How many calls it takes to find the questions. */
    static final int CALLS = 4;

    private Census() { }

    static List<Call> of(CleanSeed office) {
        List<Call> all = new ArrayList<>();
        int now = office.count(0);
        for (int what = 0; what <= 8; what++) {
            all.add(Call.of("count", what));
        }
        statutes(all, now);
        fields(all, office.count(1), now);
        lots(all, office.count(2), now);
        int bags = office.count(3);
        for (int bag = 0; bag <= bags; bag++) {
            for (int what = 0; what <= 3; what++) {
                all.add(Call.of("sack", bag, what));
            }
        }
        for (int i = 0; i < 5; i++) {
            all.add(Call.of("plan", i));
        }
        return all;
    }

    private static void statutes(List<Call> all, int now) {
        for (int kind = 0; kind < 5; kind++) {
            for (int year : new int[] {0, now, now + 1, 60}) {
                all.add(Call.of("force", kind, year, 0));
                all.add(Call.of("force", kind, year, now));
            }
        }
    }

    private static void fields(List<Call> all, int count, int now) {
        for (int field = 0; field <= count; field++) {
            all.add(Call.of("near", 0, field));
            all.add(Call.of("near", field, count - 1));
            for (int year = 0; year <= now; year++) {
                all.add(Call.of("stands", field, year, year));
                all.add(Call.of("stands", field, year, now));
            }
        }
    }

    private static void lots(List<Call> all, int count, int now) {
        for (int lot = 0; lot <= count; lot++) {
            for (int what = 0; what <= 13; what++) {
                all.add(Call.of("told", lot, what));
            }
            for (int q : new int[] {0, now / 2, now}) {
                all.add(Call.of("judge", lot, q));
                all.add(Call.of("why", lot, q));
            }
            all.add(Call.of("ways", lot, 0));
            all.add(Call.of("ways", count - 1, lot));
            for (int row = 0; row <= 2; row++) {
                all.add(Call.of("touched", lot, row, 0));
                all.add(Call.of("touched", lot, row, 1));
            }
            all.add(Call.of("buyers", lot));
        }
    }
}
