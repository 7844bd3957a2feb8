import java.util.List;
import java.util.function.Supplier;

/** Calls at the edges of what is taken, each on an object of its own, made alike. */
final class Edges {
    static final int UNKNOWN = -1, OUTSIDE = -2, STATE = -3, FULL = -4, NONE = -9;
    static final int NULL = -11, CAST = -12, INDEX = -13, SIZE = -14;
    static final long LOST = Long.MIN_VALUE;

    interface Call {
        long of(PantomimeHorses x);
    }

    interface CallWith {
        long of(PantomimeHorses x, int v);
    }

    private final Checks checks;
    private final Supplier<PantomimeHorses> maker;
    private final List<String> before;
    private final int faultBefore;

    Edges(Checks checks, Supplier<PantomimeHorses> maker) {
        this.checks = checks;
        this.maker = maker;
        faultBefore = maker.get().fault();
        before = World.seen(maker.get());
    }

    /** A call that names no FAULTS answers so, and changes nothing. */
    void keeps(String what, long answer, Call call) {
        leaves(what, answer, faultBefore, call);
    }

    /** A call that names FAULTS is refused so: fault() is 0 behind it, and nothing else is changed. */
    void refuses(String what, long answer, Call call) {
        leaves(what, answer, 0, call);
    }

    /** A call comes to the FAULT that is answered so, fault() tells it, and nothing else is changed. */
    void faults(String what, int answer, Call call) {
        leaves(what, answer, -10 - answer, call);
    }

    /** A call answers so, fault() is so behind it, and nothing else is changed. */
    void leaves(String what, long answer, int fault, Call call) {
        PantomimeHorses x = maker.get();
        checks.due(what, call.of(x), answer);
        checks.due(what + ", fault()", x.fault(), fault);
        List<String> after = World.seen(x);
        for (int row = 0; row < Math.max(before.size(), after.size()); row++) {
            String was = row < before.size() ? before.get(row) : "nothing";
            String is = row < after.size() ? after.get(row) : "nothing";
            checks.same(what + ", nothing is changed", is, was);
        }
    }

    /** A call that changes something answers so. */
    void answers(String what, long answer, Call call) {
        checks.due(what, call.of(maker.get()), answer);
    }

    /** A number is taken from least to most; another one is refused by a call that names no FAULTS. */
    void within(String what, int least, int most, long refusal, CallWith call) {
        ends(what, least, most, refusal, faultBefore, call);
    }

    /** A number is taken from least to most; another one is refused by a call that names FAULTS. */
    void withinOfFaults(String what, int least, int most, long refusal, CallWith call) {
        ends(what, least, most, refusal, 0, call);
    }

    private void ends(String what, int least, int most, long refusal, int fault, CallWith call) {
        for (int v : new int[] {least, most}) {
            checks.other(what + " " + v, call.of(maker.get(), v), refusal);
        }
        for (int v : new int[] {least - 1, most + 1, Integer.MIN_VALUE, Integer.MAX_VALUE}) {
            leaves(what + " " + v, refusal, fault, x -> call.of(x, v));
        }
    }
}
