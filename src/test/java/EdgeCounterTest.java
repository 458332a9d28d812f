/** The boundary cases of promises 4 and 5: counter and jump; each method tests one sentence. */
public final class EdgeCounterTest {
    private static final long MIN = Samples.MIN;
    private static final long MAX = Samples.MAX;
    private static final int PLAIN = Words.formI(19, 0, 0, 0, 0);

    public static void main(String[] args) {
        jumpLosesBitZero();
        linkToRegisterLosesBitZero();
        counterWrapsByLength();
        counterWrapsByLengthOfAFence();
        counterWrapsByLengthOfABranchNotTaken();
        counterWrapsByLengthWhenFinished();
        counterWrapsByJ();
        counterWrapsByB();
        counterWrapsByRegisterAndI();
        linkWraps();
        counterAndUpperWrap();
        counterChangesNothing();
        jumpDropsWhatIsUnderWay();
        jumpToTheSamePlaceDropsToo();
        jumpWithNothingUnderWay();
        Check.end();
    }

    // "THE COUNTER is a long without its bit 0.", "The counter becomes v without bit 0"
    private static void jumpLosesBitZero() {
        IntegerCore core = new IntegerCore();
        for (long v : Samples.EDGES) {
            core.jump(v);
            Check.equal("counter() after jump(" + v + ")", core.counter(), v % 2 == 0 ? v : v - 1);
        }
        for (int bit = 1; bit < 64; bit++) {
            core.jump(1L << bit);
            Check.equal("counter() after jump to 2^" + bit, core.counter(), 1L << bit);
            core.jump((1L << bit) + 1);
            Check.equal("counter() after jump to 2^" + bit + " + 1", core.counter(), 1L << bit);
        }
    }

    // "the counter becomes x + I without bit 0": of the sum, not of x or of I.
    private static void linkToRegisterLosesBitZero() {
        checkLinkToRegister(1000, 0, 1000);
        checkLinkToRegister(1001, 0, 1000);
        checkLinkToRegister(1000, 1, 1000);
        checkLinkToRegister(1001, 1, 1002);
        checkLinkToRegister(1000, -1, 998);
        checkLinkToRegister(1001, -1, 1000);
        checkLinkToRegister(-1, 0, -2);
        checkLinkToRegister(0, -1, -2);
        checkLinkToRegister(0, 1, 0);
        checkLinkToRegister(MAX, 0, MAX - 1);
        checkLinkToRegister(0, 2047, 2046);
        checkLinkToRegister(0, -2048, -2048);
        checkLinkToRegister(0, -2047, -2048);
    }

    private static void checkLinkToRegister(long x, int i, long due) {
        IntegerCore core = new IntegerCore();
        core.set(6, x);
        Check.equal("code 103", core.run(Words.formI(103, 0, 5, 6, i), 4), IntegerCore.DONE);
        Check.equal("counter() after code 103 with " + x + " and " + i, core.counter(), due);
        Check.equal("d after code 103 with " + x + " and " + i, core.get(5), 4);
    }

    // "Numbers wrap.", "the counter grows by L then"
    private static void counterWrapsByLength() {
        checkAfter(MAX, PLAIN, 2, MIN);
        checkAfter(MAX - 3, PLAIN, 2, MAX - 1);
        checkAfter(MAX, PLAIN, 4, MIN + 2);
        checkAfter(MAX - 3, PLAIN, 4, MIN);
        checkAfter(MAX - 5, PLAIN, 4, MAX - 1);
        checkAfter(-2, PLAIN, 2, 0);
        checkAfter(-2, PLAIN, 4, 2);
        checkAfter(-4, PLAIN, 4, 0);
        checkAfter(0x7ffffffeL, PLAIN, 2, 0x80000000L);
        checkAfter(0xfffffffeL, PLAIN, 4, 0x100000002L);
    }

    // "Numbers wrap.", "15, f 0 or 1: nothing.": the counter grows by L all the same.
    private static void counterWrapsByLengthOfAFence() {
        checkAfter(MAX, Words.register(15, 0, 0, 0, 0, 0), 2, MIN);
        checkAfter(MAX, Words.register(15, 0, 1, 0, 0, 0), 4, MIN + 2);
    }

    // "Numbers wrap.", "99: the counter grows by B instead, if": else by L.
    private static void counterWrapsByLengthOfABranchNotTaken() {
        checkAfter(MAX, Words.formB(1, 0, 0, 64), 2, MIN);
        checkAfter(MAX, Words.formB(4, 0, 0, -64), 4, MIN + 2);
    }

    // "Numbers wrap.", "The counter grows by L.": of what was under way.
    private static void counterWrapsByLengthWhenFinished() {
        for (int word : Samples.wanting(5, 6, 7)) {
            for (int length = 2; length <= 4; length += 2) {
                IntegerCore core = new IntegerCore();
                core.jump(MAX);
                core.run(word, length);
                Check.equal("counter() before finish", core.counter(), MAX - 1);
                core.finish(true, 1);
                Check.equal("counter() after finish of " + Samples.name(word), core.counter(), MIN + length - 2);
            }
        }
    }

    // "Numbers wrap.", "the counter grows by J instead"
    private static void counterWrapsByJ() {
        checkAfter(MAX, Words.formJ(0, 2), 4, MIN);
        checkAfter(MAX, Words.formJ(0, 1048574), 4, MIN + 1048572);
        checkAfter(MIN, Words.formJ(0, -2), 4, MAX - 1);
        checkAfter(MIN, Words.formJ(0, -1048576), 4, MAX - 1048575);
        checkAfter(0, Words.formJ(0, -2), 2, -2);
        checkAfter(-2, Words.formJ(0, 2), 2, 0);
        checkAfter(-2, Words.formJ(0, 0), 2, -2);
    }

    // "Numbers wrap.", "the counter grows by B instead"
    private static void counterWrapsByB() {
        checkAfter(MAX, Words.formB(0, 0, 0, 2), 4, MIN);
        checkAfter(MAX, Words.formB(0, 0, 0, 4094), 4, MIN + 4092);
        checkAfter(MIN, Words.formB(0, 0, 0, -2), 4, MAX - 1);
        checkAfter(MIN, Words.formB(0, 0, 0, -4096), 4, MAX - 4095);
        checkAfter(0, Words.formB(5, 0, 0, -2), 2, -2);
        checkAfter(-2, Words.formB(7, 0, 0, 2), 2, 0);
        checkAfter(-2, Words.formB(7, 0, 0, 0), 2, -2);
    }

    private static void checkAfter(long from, int word, int length, long due) {
        IntegerCore core = new IntegerCore();
        core.jump(from);
        core.run(word, length);
        Check.equal("counter() after " + Samples.name(word) + " at " + from + ", length " + length, core.counter(), due);
    }

    // "Numbers wrap.", "the counter becomes x + I"
    private static void counterWrapsByRegisterAndI() {
        checkLinkToRegister(MAX, 1, MIN);
        checkLinkToRegister(MAX, 2047, MIN + 2046);
        checkLinkToRegister(MIN, -1, MAX - 1);
        checkLinkToRegister(MIN, -2048, MAX - 2047);
        checkLinkToRegister(-1, 1, 0);
    }

    // "Numbers wrap.", "d gets the counter and L"
    private static void linkWraps() {
        int[] words = {Words.formJ(5, 64), Words.formI(103, 0, 5, 0, 64)};
        for (int word : words) {
            checkGiven(MAX, word, 2, MIN);
            checkGiven(MAX, word, 4, MIN + 2);
            checkGiven(-2, word, 2, 0);
            checkGiven(-4, word, 4, 0);
            checkGiven(MIN, word, 4, MIN + 4);
        }
    }

    // "Numbers wrap.", "d gets the counter and U"
    private static void counterAndUpperWrap() {
        checkGiven(MAX, Words.formU(23, 5, 4096), 4, MIN + 4094);
        checkGiven(MAX, Words.formU(23, 5, 0x7ffff000), 4, MIN + 0x7ffff000L - 2);
        checkGiven(MIN, Words.formU(23, 5, -4096), 4, MAX - 4095);
        checkGiven(MIN, Words.formU(23, 5, 0x80000000), 4, MAX - 0x7fffffffL);
        checkGiven(0, Words.formU(23, 5, -4096), 2, -4096);
        checkGiven(-4096, Words.formU(23, 5, 4096), 2, 0);
    }

    private static void checkGiven(long from, int word, int length, long due) {
        IntegerCore core = new IntegerCore();
        core.jump(from);
        core.run(word, length);
        Check.equal("d after " + Samples.name(word) + " at " + from + ", length " + length, core.get(5), due);
    }

    // "The counter.": and nothing changes, whether something is under way or not.
    private static void counterChangesNothing() {
        IntegerCore core = Samples.core();
        for (int round = 0; round < 2; round++) {
            State before = new State(core);
            Check.equal("counter()", core.counter(), Samples.PLACE);
            Check.equal("counter() again", core.counter(), Samples.PLACE);
            Check.holds("counter changes nothing", before.same(new State(core)));
            core.run(Words.formI(3, 3, 5, 6, 0), 4);
        }
        Check.equal("finish after counter", core.finish(true, 1), IntegerCore.LOAD);
    }

    // "nothing is under way any more"
    private static void jumpDropsWhatIsUnderWay() {
        for (int word : Samples.wanting(5, 6, 7)) {
            checkJumpDrops(word, 64);
        }
    }

    // "nothing is under way any more": the counter need not move for that.
    private static void jumpToTheSamePlaceDropsToo() {
        for (int word : Samples.wanting(5, 6, 7)) {
            checkJumpDrops(word, Samples.PLACE);
            checkJumpDrops(word, Samples.PLACE + 1);
        }
    }

    private static void checkJumpDrops(int word, long to) {
        IntegerCore core = Samples.core();
        core.run(word, 4);
        core.jump(to);
        String what = " after " + Samples.name(word) + " and jump(" + to + ")";
        for (int number = 0; number < 5; number++) {
            Check.equal("wanted(" + number + ")" + what, core.wanted(number), -1);
        }
        Check.fails("finish" + what, IllegalStateException.class, () -> core.finish(true, 1));
        Check.equal("counter()" + what, core.counter(), to / 2 * 2);
        Check.equal("done()" + what, core.done(), 0);
        for (int r = 0; r < 32; r++) {
            Check.equal("get(" + r + ")" + what, core.get(r), Samples.held(r));
        }
    }

    // "The counter becomes v without bit 0": the counter alone, when there is nothing to drop.
    private static void jumpWithNothingUnderWay() {
        IntegerCore core = Samples.core();
        core.run(PLAIN, 4);
        core.jump(64);
        core.jump(Samples.PLACE);
        Check.equal("counter() after two jumps", core.counter(), Samples.PLACE);
        Check.equal("done() after two jumps", core.done(), 1);
        for (int r = 0; r < 32; r++) {
            Check.equal("get(" + r + ") after two jumps", core.get(r), Samples.held(r));
        }
    }
}
