/** Promises 4 and 5: counter and jump. */
public final class CounterTest {
    public static void main(String[] args) {
        jumpDropsBitZero();
        jumpDropsWhatIsUnderWay();
        counterWraps();
        Check.end();
    }

    private static void jumpDropsBitZero() {
        IntegerCore core = new IntegerCore();
        long[][] places = {
            {0, 0}, {1, 0}, {2, 2}, {3, 2}, {1001, 1000}, {-1, -2}, {-2, -2},
            {Long.MAX_VALUE, Long.MAX_VALUE - 1}, {Long.MIN_VALUE, Long.MIN_VALUE},
            {0x1_0000_0001L, 0x1_0000_0000L},
        };
        for (long[] place : places) {
            core.jump(place[0]);
            Check.equal("counter() after jump(" + place[0] + ")", core.counter(), place[1]);
        }
        Check.equal("done() after jumps", core.done(), 0);
    }

    private static void jumpDropsWhatIsUnderWay() {
        IntegerCore core = new IntegerCore();
        core.run(Words.formI(Words.LOAD, 3, 2, 0, 16), 4);
        Check.equal("wanted(0) before", core.wanted(0), 16);
        core.jump(40);
        Check.equal("wanted(0) after", core.wanted(0), -1);
        Check.fails("finish after jump", IllegalStateException.class, () -> core.finish(true, 1));
        Check.equal("counter() after jump", core.counter(), 40);
        Check.equal("get(2) after jump", core.get(2), 0);
    }

    private static void counterWraps() {
        IntegerCore core = new IntegerCore();
        core.jump(Long.MAX_VALUE);
        core.run(Words.formI(Words.LONG_IMMEDIATE, 0, 0, 0, 0), 4);
        Check.equal("counter() past the greatest", core.counter(), Long.MIN_VALUE + 2);
        core.jump(-2);
        core.run(Words.formI(Words.LONG_IMMEDIATE, 0, 0, 0, 0), 2);
        Check.equal("counter() past -1", core.counter(), 0);
    }
}
