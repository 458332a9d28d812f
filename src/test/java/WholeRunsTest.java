import java.util.function.LongSupplier;

/**
 * All promises at once: runs of 512 calls, each on a new object, with the answers of the document said once more
 * (Model). The calls are the same each time.
 */
public final class WholeRunsTest {
    private static final int RUNS = 600;
    private static final int CALLS = 512;
    private static final int[] CODES = {
        55, 23, 111, 103, 99, 19, 51, 27, 59, 15, 3, 35, 47, 7, 39, 67, 71, 75, 79, 83, 115,
        // The ones with the most cases come more often.
        19, 51, 51, 51, 27, 59, 59, 47, 99, 3,
    };
    private static final int[] GS = {0, 0, 1, 1, 32, 32, 2, 33, 127};
    private static final int[] NEAR_REGISTERS = {-1, 31, 32, 33, Integer.MIN_VALUE, Integer.MAX_VALUE};
    private static final int[] LENGTHS = {2, 4, 2, 4, 2, 4, 2, 4, 3, 0, -2, 8};

    private final IntegerCore core = new IntegerCore();
    private final Model model = new Model();
    private long state;

    private WholeRunsTest(long seed) {
        state = seed;
    }

    public static void main(String[] args) {
        for (int run = 1; run <= RUNS; run++) {
            new WholeRunsTest(run).compareCalls(run);
        }
        Check.end();
    }

    private void compareCalls(int run) {
        for (int call = 1; call <= CALLS; call++) {
            compareOne("run " + run + ", call " + call + ": ");
        }
    }

    // Written out, so that the calls are the same each time and on every machine.
    private int below(int bound) {
        state = state * 6364136223846793005L + 1442695040888963407L;
        return (int) ((state >>> 33) % bound);
    }

    private void compareOne(String when) {
        int kind = below(32);
        if (kind < 13) {
            compareRun(when);
        } else if (kind < 17) {
            boolean gets = below(4) > 0;
            long v = number();
            compare(when + "finish(" + gets + ", " + v + ")", () -> core.finish(gets, v), () -> model.finish(gets, v));
        } else if (kind < 20) {
            int what = below(8) - 1;
            compare(when + "wanted(" + what + ")", () -> core.wanted(what), () -> model.wanted(what));
        } else if (kind < 24) {
            int r = register();
            compare(when + "get(" + r + ")", () -> core.get(r), () -> model.get(r));
        } else if (kind < 28) {
            compareSet(when);
        } else if (kind < 30) {
            compare(when + "counter()", core::counter, model::counter);
        } else if (kind < 31) {
            compare(when + "done()", core::done, model::done);
        } else {
            long v = number();
            core.jump(v);
            model.jump(v);
        }
    }

    private void compareRun(String when) {
        int w = below(8) == 0 ? below(1 << 30) << 2 | below(4) : word();
        int length = LENGTHS[below(LENGTHS.length)];
        compare(when + "run(" + w + ", " + length + ")", () -> core.run(w, length), () -> model.run(w, length));
    }

    private void compareSet(String when) {
        int r = register();
        long v = number();
        compare(when + "set(" + r + ", " + v + ")", () -> {
            core.set(r, v);
            return 0;
        }, () -> {
            model.set(r, v);
            return 0;
        });
    }

    private void compare(String call, LongSupplier got, LongSupplier due) {
        Check.same(call, answer(got), answer(due));
    }

    private static String answer(LongSupplier call) {
        try {
            return String.valueOf(call.getAsLong());
        } catch (RuntimeException e) {
            return "throws " + e.getClass().getName();
        }
    }

    private int word() {
        int code = CODES[below(CODES.length)];
        int g = below(4) == 0 ? below(128) : GS[below(GS.length)];
        return Words.register(code, g, below(8), field(), field(), field());
    }

    // Few registers, so that an instruction often takes what an earlier one gave.
    private int field() {
        return below(8) == 0 ? below(32) : below(5);
    }

    private int register() {
        return below(12) == 0 ? NEAR_REGISTERS[below(NEAR_REGISTERS.length)] : field();
    }

    private long number() {
        switch (below(4)) {
            case 0: return below(9) - 4;
            case 1: return Samples.EDGES[below(Samples.EDGES.length)];
            case 2: return (long) below(1 << 30) << 34 | (long) below(1 << 30) << 17 | below(1 << 17);
            default: return Samples.EDGES[below(Samples.EDGES.length)] + below(5) - 2;
        }
    }
}
