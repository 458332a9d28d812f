import java.util.Arrays;

/** All that a caller can see of a core, to tell whether a call changed anything. */
final class State {
    private final long[] seen;

    State(IntegerCore core) {
        seen = new long[39];
        for (int r = 0; r < 32; r++) {
            seen[r] = core.get(r);
        }
        seen[32] = core.counter();
        seen[33] = core.done();
        for (int what = 0; what < 5; what++) {
            seen[34 + what] = core.wanted(what);
        }
    }

    boolean same(State other) {
        return Arrays.equals(seen, other.seen);
    }
}
