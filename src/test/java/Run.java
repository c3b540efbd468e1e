import java.util.ArrayList;
import java.util.List;

/**
 * A run of calls on one object, each with the answer that is due. Refused calls are left out on a twin; at
 * the end object and twin must answer all questions alike, so that the refused calls have changed nothing.
 */
final class Run {
    private static final int MOST_CALLS = 512;

    private record Made(Call call, boolean isRefused) { }

    private final Due due;
    private final String name;
    private final List<Made> all = new ArrayList<>();
    private final CleanSeed office = new CleanSeed();

    Run(Due due, String name) {
        this.due = due;
        this.name = name;
        due.runBegins();
    }

    /** A call with its answer. */
    Run is(String text, long want) {
        add(Call.of(text), want, false);
        return this;
    }

    /** Calls that do what they are asked for, whatever they answer. */
    Run done(String... texts) {
        for (String text : texts) {
            Call call = Call.of(text);
            all.add(new Made(call, false));
            long answer = call.on(office);
            due.is(name + ": " + text + " is done", answer != call.refusal(), true);
        }
        return this;
    }

    Run doneTimes(int times, String text) {
        for (int i = 0; i < times; i++) {
            done(text);
        }
        return this;
    }

    /** Calls that answer as refused ones do, and change nothing. */
    Run refused(String... texts) {
        for (String text : texts) {
            Call call = Call.of(text);
            add(call, call.refusal(), true);
        }
        return this;
    }

    /** The call is refused with each of these numbers in the place of the sign #. */
    Run refusedWith(String text, long... numbers) {
        for (long number : numbers) {
            refused(text.replace("#", Long.toString(number)));
        }
        return this;
    }

    void end() {
        due.runEnds();
        due.is(name + ": calls of one object", all.size() <= MOST_CALLS - Census.CALLS, true);
        List<Call> questions = Census.of(replayed(true));
        int room = Math.max(1, MOST_CALLS - all.size());
        for (int from = 0; from < questions.size(); from += room) {
            compare(questions.subList(from, Math.min(questions.size(), from + room)));
        }
    }

    private void add(Call call, long want, boolean isRefused) {
        all.add(new Made(call, isRefused));
        due.is(name + ": " + call.text(), call.on(office), want);
    }

    private void compare(List<Call> questions) {
        CleanSeed whole = replayed(true);
        CleanSeed twin = replayed(false);
        for (Call each : questions) {
            due.is(name + ": then " + each.text(), each.on(whole), each.on(twin));
        }
    }

    private CleanSeed replayed(boolean withRefused) {
        CleanSeed fresh = new CleanSeed();
        for (Made each : all) {
            if (withRefused || !each.isRefused) {
                each.call.on(fresh);
            }
        }
        return fresh;
    }
}
