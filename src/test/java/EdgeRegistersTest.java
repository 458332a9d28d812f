/** The boundary cases of promises 1 to 3: a new object, get and set; each method tests one sentence. */
public final class EdgeRegistersTest {
    private static final int[] TOO_SMALL = {-1, -2, -31, -32, -33, Integer.MIN_VALUE, Integer.MIN_VALUE + 1};
    private static final int[] TOO_LARGE = {32, 33, 63, 64, 128, 256, 65536, Integer.MAX_VALUE - 1, Integer.MAX_VALUE};

    public static void main(String[] args) {
        newRegistersHoldZero();
        newCounterIsZero();
        newObjectHasNothingUnderWay();
        firstAndLastRegister();
        registersHoldLongs();
        registerTooSmall();
        registerTooLarge();
        registerZeroIsSet();
        registerZeroIsGivenAtOnce();
        registerZeroIsGivenWhatComesBack();
        registerZeroIsRead();
        getChangesNothing();
        setChangesOneRegisterAlone();
        Check.end();
    }

    // "Registers hold 0": instructions find it there too, not get alone.
    private static void newRegistersHoldZero() {
        for (int r = 0; r < 32; r++) {
            IntegerCore core = new IntegerCore();
            Check.equal("get(" + r + ") of a new object", core.get(r), 0);
            core.set(1, 77);
            if (r != 1) {
                core.run(Words.register(51, 0, 6, 1, r, r), 4);
                Check.equal("x | y of register " + r + " of a new object", core.get(1), 0);
            }
        }
    }

    // "the counter is 0"
    private static void newCounterIsZero() {
        IntegerCore core = new IntegerCore();
        Check.equal("counter() of a new object", core.counter(), 0);
        core.run(Words.formU(23, 1, 4096), 4);
        Check.equal("code 23 on a new object", core.get(1), 4096);
        Check.equal("counter() after the first instruction", core.counter(), 4);
    }

    // "nothing is under way"
    private static void newObjectHasNothingUnderWay() {
        IntegerCore core = new IntegerCore();
        for (int what = -1; what < 6; what++) {
            Check.equal("wanted(" + what + ") of a new object", core.wanted(what), -1);
        }
        Check.fails("finish(true, 0) of a new object", IllegalStateException.class, () -> core.finish(true, 0));
        Check.fails("finish(false, 0) of a new object", IllegalStateException.class, () -> core.finish(false, 0));
        Check.equal("done() of a new object", core.done(), 0);
    }

    // "REGISTERS 0 .. 31": both ends are registers.
    private static void firstAndLastRegister() {
        IntegerCore core = new IntegerCore();
        core.set(0, 5);
        core.set(1, 6);
        core.set(31, 7);
        Check.equal("get(0)", core.get(0), 0);
        Check.equal("get(1)", core.get(1), 6);
        Check.equal("get(31)", core.get(31), 7);
        core.run(Words.register(51, 32, 0, 31, 31, 1), 4);
        Check.equal("register 31 as d and a", core.get(31), 1);
        core.run(Words.register(51, 32, 0, 1, 1, 31), 4);
        Check.equal("register 31 as b", core.get(1), 5);
    }

    // "REGISTERS 0 .. 31 hold longs": no bit is lost, by set or by an instruction.
    private static void registersHoldLongs() {
        for (long v : Samples.EDGES) {
            IntegerCore core = new IntegerCore();
            for (int r = 1; r < 32; r++) {
                core.set(r, v);
                Check.equal("get(" + r + ") after set to " + v, core.get(r), v);
                core.set(r, 0);
                core.run(Words.formI(3, 3, r, 0, 0), 4);
                core.finish(true, v);
                Check.equal("get(" + r + ") after it was given " + v, core.get(r), v);
            }
        }
    }

    // "IndexOutOfBoundsException: there is no such register.", below the first one.
    private static void registerTooSmall() {
        for (int r : TOO_SMALL) {
            checkNoRegister(r);
        }
    }

    // "IndexOutOfBoundsException: there is no such register.", above the last one.
    private static void registerTooLarge() {
        for (int r : TOO_LARGE) {
            checkNoRegister(r);
        }
    }

    private static void checkNoRegister(int r) {
        IntegerCore core = Samples.core();
        State before = new State(core);
        Check.fails("get(" + r + ")", IndexOutOfBoundsException.class, () -> core.get(r));
        Check.fails("set(" + r + ", 0)", IndexOutOfBoundsException.class, () -> core.set(r, 0));
        Check.fails("set(" + r + ", 9)", IndexOutOfBoundsException.class, () -> core.set(r, 9));
        Check.holds("register " + r + ", which there isn't, changes nothing", before.same(new State(core)));
    }

    // "register 0 holds 0 always, whatever it gets": by set, which does not throw.
    private static void registerZeroIsSet() {
        IntegerCore core = Samples.core();
        State before = new State(core);
        for (long v : Samples.EDGES) {
            core.set(0, v);
            Check.equal("get(0) after set(0, " + v + ")", core.get(0), 0);
        }
        Check.holds("set(0, ..) changes nothing", before.same(new State(core)));
    }

    // "register 0 holds 0 always, whatever it gets": as the d of an instruction, which is done all the same.
    private static void registerZeroIsGivenAtOnce() {
        for (int word : Samples.giving(0, 6, 7)) {
            IntegerCore core = Samples.core();
            Check.equal(Samples.name(word) + " with d 0", core.run(word, 4), IntegerCore.DONE);
            checkNoRegisterChanged(core, word);
            Check.equal(Samples.name(word) + " with d 0 is done", core.done(), 1);
            Check.holds(Samples.name(word) + " with d 0 moves the counter", core.counter() != Samples.PLACE);
        }
    }

    // "register 0 holds 0 always, whatever it gets": as the d of what is finished.
    private static void registerZeroIsGivenWhatComesBack() {
        for (int word : Samples.wantingForD(0, 6, 7)) {
            for (long v : new long[] {-1, 1, Samples.MIN, Samples.MAX}) {
                IntegerCore core = Samples.core();
                core.run(word, 4);
                Check.equal(Samples.name(word) + " wants d 0", core.wanted(4), 0);
                Check.equal(Samples.name(word) + " with d 0", core.finish(true, v), Samples.kind(word));
                checkNoRegisterChanged(core, word);
                Check.equal(Samples.name(word) + " with d 0 is done", core.done(), 1);
            }
        }
    }

    private static void checkNoRegisterChanged(IntegerCore core, int word) {
        for (int r = 0; r < 32; r++) {
            Check.equal("get(" + r + ") after " + Samples.name(word) + " with d 0", core.get(r), Samples.held(r));
        }
    }

    // "register 0 holds 0 always": as x and as y, after it was to get something else.
    private static void registerZeroIsRead() {
        IntegerCore core = new IntegerCore();
        core.set(0, 5);
        core.run(Words.formI(19, 0, 0, 0, 7), 4);
        core.set(2, 22);
        core.run(Words.register(51, 0, 0, 3, 0, 2), 4);
        Check.equal("register 0 as x", core.get(3), 22);
        core.run(Words.register(51, 32, 0, 3, 2, 0), 4);
        Check.equal("register 0 as y", core.get(3), 22);
        core.run(Words.formS(35, 3, 0, 0, 8), 4);
        Check.equal("register 0 as what an address starts from", core.wanted(0), 8);
        Check.equal("register 0 as an operand", core.wanted(2), 0);
    }

    // "What register r holds.": and nothing changes, whether something is under way or not.
    private static void getChangesNothing() {
        IntegerCore core = Samples.core();
        for (int round = 0; round < 2; round++) {
            State before = new State(core);
            for (int r = 0; r < 32; r++) {
                Check.equal("get(" + r + ")", core.get(r), Samples.held(r));
                Check.equal("get(" + r + ") again", core.get(r), Samples.held(r));
            }
            Check.holds("get changes nothing", before.same(new State(core)));
            core.run(Words.formI(3, 3, 5, 6, 0), 4);
        }
    }

    // "Register r gets v.": no other one, and what is under way stays so.
    private static void setChangesOneRegisterAlone() {
        for (int r = 1; r < 32; r++) {
            IntegerCore core = Samples.core();
            core.run(Words.formS(35, 3, 6, 7, 21), 2);
            core.set(r, -5);
            for (int other = 0; other < 32; other++) {
                Check.equal("get(" + other + ") after set(" + r + ", -5)", core.get(other),
                        other == r ? -5 : Samples.held(other));
            }
            Check.equal("the address after set(" + r + ", -5)", core.wanted(0), Samples.held(6) + 21);
            Check.equal("the operand after set(" + r + ", -5)", core.wanted(2), Samples.held(7));
            Check.equal("counter() after set", core.counter(), Samples.PLACE);
            Check.equal("done() after set", core.done(), 0);
            Check.equal("finish after set", core.finish(true, 1), IntegerCore.STORE);
        }
    }
}
