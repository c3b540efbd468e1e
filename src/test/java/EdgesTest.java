import java.util.ArrayList;
import java.util.List;

/**
 * All promises: every call with every choice of numbers at and around the document's bounds, in several states,
 * compared with the plain model. After a call that was not refused the state is built anew for the next choice.
 */
public final class EdgesTest {
    private static final Due due = new Due("EdgesTest");
    private static final int MOST_CALLS = 512;
    private static final int MIN = Integer.MIN_VALUE;
    private static final int MAX = Integer.MAX_VALUE;
    private static final long[] SIDES = {MIN, -1, 0, 1, 999, 1000, 1001, MAX};
    private static final long[] FIELDS = {MIN, -1, 0, 1, 2, 38, 39, 40, MAX};
    private static final long[] LOTS = {MIN, -2, -1, 0, 1, 2, 3, 4, 5, 6, 198, 199, 200, MAX};
    private static final long[] BAGS = {MIN, -1, 0, 1, 2, 3, 4, 199, 200, MAX};
    private static final long[] YEARS = {MIN, -1, 0, 1, 2, 3, 39, 40, 41, MAX};
    private static final long[] LAWS = {MIN, -1, 0, 1, 3, 40, 41, 59, 60, 61, MAX};
    private static final long[] VALUES = {MIN, -1, 0, 1, 5, 6, 8, 9, 10, 11, 1000, 1001, MAX};
    private static final long[] GRAMS = {MIN, -1, 0, 1, 2, 50, 97, 98, 99, 100, 101, MAX};
    private static final long[] SMALL = {MIN, -1, 0, 1, 2, 3, 4, 5, 6, 8, 9, 13, 14, MAX};

    public static void main(String[] args) {
        List<Call> nothing = calls();
        for (List<Call> state : List.of(nothing, middling(), manyLots(), manyBags(), manyFields(), lastYear(),
                manyTold(), manyStands())) {
            due.is("calls of a state", state.size() < MOST_CALLS, true);
            changes(state);
            questions(state);
        }
        due.end();
    }

    private static void changes(List<Call> state) {
        every(state, "field", SIDES, SIDES, SIDES, SIDES);
        every(state, "stand", FIELDS, YEARS, SMALL);
        every(state, "statute", SMALL, LAWS, VALUES);
        every(state, "tube", SMALL);
        every(state, "sow", LOTS, FIELDS, GRAMS);
        every(state, "harvest", LOTS, new long[] {MIN, -1, 0, 1, 99999, 100000, 100001, MAX});
        every(state, "mix", LOTS, new long[] {MIN, 0, 1, 98, 100, 101, MAX}, LOTS, new long[] {MIN, 0, 1, 97, 100, 101, MAX});
        every(state, "bag", LOTS, GRAMS);
        every(state, "open", BAGS);
        every(state, "seal", BAGS);
        every(state, "sell", BAGS, new long[] {MIN, -1, 0, 1, 18, 19, 20, 31, 32, MAX});
        every(state, "toss", LOTS, GRAMS);
        long[] plants = {MIN, -1, 0, 1, 2, 9999, 10000, 10001, MAX};
        every(state, "look", LOTS, plants, plants);
        every(state, "prove", LOTS);
        every(state, "year");
        every(state, "want", LOTS);
    }

    private static void questions(List<Call> state) {
        every(state, "near", FIELDS, FIELDS);
        every(state, "stands", FIELDS, YEARS, YEARS);
        every(state, "force", SMALL, LAWS, YEARS);
        long[] rows = {MIN, -1, 0, 1, 2, 39, 40, 41, 42, 499, 500, 501, MAX};
        every(state, "drawn", rows, rows, new long[] {Long.MIN_VALUE, -1, 0, Long.MAX_VALUE}, rows);
        every(state, "judge", LOTS, YEARS);
        every(state, "why", LOTS, YEARS);
        every(state, "ways", LOTS, LOTS);
        every(state, "touched", LOTS, SMALL, LOTS);
        every(state, "buyers", LOTS);
        every(state, "plan", SMALL);
        every(state, "told", LOTS, SMALL);
        every(state, "sack", BAGS, SMALL);
        every(state, "count", SMALL);
    }

    private static void every(List<Call> state, String name, long[]... choices) {
        Pair pair = new Pair(state);
        int[] at = new int[choices.length];
        boolean more = true;
        while (more) {
            long[] args = new long[choices.length];
            for (int i = 0; i < args.length; i++) {
                args[i] = choices[i][at[i]];
            }
            if (!pair.ask(Call.of(name, args))) {
                pair = new Pair(state);
            }
            more = false;
            for (int i = args.length - 1; i >= 0 && !more; i--) {
                at[i] = (at[i] + 1) % choices[i].length;
                more = at[i] != 0;
            }
        }
    }

    /** An object and a model in one state. */
    private static final class Pair {
        private final CleanSeed office = new CleanSeed();
        private final Model model = new Model();
        private int calls = 0;

        Pair(List<Call> state) {
            for (Call each : state) {
                ask(each);
            }
        }

        /** Whether both are good for another call: they have not been changed, nor used too often. */
        boolean ask(Call call) {
            long want = call.on(model);
            due.is(call.text(), call.on(office), want);
            calls++;
            return want == call.refusal() && calls < MOST_CALLS;
        }
    }

    private static List<Call> calls(String... texts) {
        List<Call> all = new ArrayList<>();
        for (String text : texts) {
            all.add(Call.of(text));
        }
        return all;
    }

    private static void more(List<Call> all, int times, String... texts) {
        for (int i = 0; i < times; i++) {
            all.addAll(calls(texts));
        }
    }

    /** Two fields, lots of all sorts, bags of all kinds, in the third year. */
    private static List<Call> middling() {
        return calls("field(0, 0, 10, 10)", "field(30, 0, 40, 10)", "tube(1)", "tube(1)", "tube(2)", "sow(0, 0, 1)",
            "harvest(3, 100)", "look(3, 100, 1)", "year()", "statute(1, 1, 0)", "sow(1, 0, 2)", "stand(1, 1, 1)",
            "mix(0, 1, 3, 1)", "bag(3, 1)", "bag(0, 1)", "bag(5, 1)", "sell(0, 3)", "open(1)", "sell(2, 19)", "open(2)",
            "want(0)", "want(2)", "year()", "sow(5, 1, 1)", "stand(0, 1, 2)", "statute(0, 3, 20)");
    }

    private static List<Call> manyLots() {
        List<Call> all = middling();
        more(all, 192, "tube(1)");
        all.addAll(calls("want(199)", "want(198)"));
        return all;
    }

    private static List<Call> manyBags() {
        List<Call> all = calls("tube(1)", "tube(1)", "tube(1)");
        more(all, 99, "bag(0, 1)", "bag(1, 1)");
        all.addAll(calls("bag(2, 1)", "open(0)", "sell(1, 7)", "want(0)", "want(1)", "want(2)"));
        return all;
    }

    private static List<Call> manyFields() {
        List<Call> all = calls("tube(1)", "tube(2)");
        more(all, 39, "field(0, 0, 100, 100)");
        all.addAll(calls("sow(0, 38, 1)", "sow(1, 0, 1)", "look(2, 10, 0)", "want(0)", "want(1)"));
        return all;
    }

    private static List<Call> lastYear() {
        List<Call> all = middling();
        more(all, 37, "year()");
        all.addAll(calls("sow(0, 0, 1)", "look(7, 10000, 0)", "prove(1)", "year()", "sow(0, 0, 1)", "tube(2)", "want(7)"));
        return all;
    }

    /** All statutes and looks but one are told. */
    private static List<Call> manyTold() {
        List<Call> all = calls("field(0, 0, 10, 10)", "field(900, 0, 910, 10)", "tube(1)", "sow(0, 0, 1)");
        more(all, 99, "statute(1, 0, 0)");
        more(all, 299, "look(1, 1, 0)");
        return all;
    }

    /** All that may be told of fields, but one, is told. */
    private static List<Call> manyStands() {
        List<Call> all = calls("field(0, 0, 10, 10)", "field(900, 0, 910, 10)", "tube(1)", "want(0)", "year()");
        more(all, 299, "stand(1, 0, 1)");
        return all;
    }
}
