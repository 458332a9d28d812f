/** Promises 2 and 3: get and set. */
public final class RegistersTest {
    private static final int[] NO_REGISTERS = {-1, 32, 33, 64, 256, Integer.MIN_VALUE, Integer.MAX_VALUE};

    public static void main(String[] args) {
        eachRegisterKeepsItsOwn();
        registerZeroStaysZero();
        wrongRegistersThrow();
        setLeavesWhatIsUnderWay();
        Check.end();
    }

    private static void eachRegisterKeepsItsOwn() {
        IntegerCore core = new IntegerCore();
        for (int r = 0; r < 32; r++) {
            core.set(r, Long.MIN_VALUE + r);
        }
        for (int r = 1; r < 32; r++) {
            Check.equal("get(" + r + ")", core.get(r), Long.MIN_VALUE + r);
        }
        core.set(31, Long.MAX_VALUE);
        Check.equal("get(31) after a second set", core.get(31), Long.MAX_VALUE);
        Check.equal("get(30) after set(31, ..)", core.get(30), Long.MIN_VALUE + 30);
        Check.equal("counter() after sets", core.counter(), 0);
        Check.equal("done() after sets", core.done(), 0);
    }

    private static void registerZeroStaysZero() {
        IntegerCore core = new IntegerCore();
        core.set(0, -1);
        Check.equal("get(0) after set", core.get(0), 0);
        core.run(Words.formI(Words.LONG_IMMEDIATE, 0, 0, 0, 7), 4);
        Check.equal("get(0) after an instruction", core.get(0), 0);
        core.run(Words.formJ(0, 8), 4);
        Check.equal("get(0) after a link", core.get(0), 0);
        core.run(Words.formI(Words.LOAD, 3, 0, 0, 7), 4);
        core.finish(true, 9);
        Check.equal("get(0) after a load", core.get(0), 0);
    }

    private static void wrongRegistersThrow() {
        IntegerCore core = new IntegerCore();
        core.set(1, 11);
        core.run(Words.formI(Words.LOAD, 3, 2, 1, 0), 4);
        State before = new State(core);
        for (int r : NO_REGISTERS) {
            Check.fails("get(" + r + ")", IndexOutOfBoundsException.class, () -> core.get(r));
            Check.fails("set(" + r + ", 5)", IndexOutOfBoundsException.class, () -> core.set(r, 5));
        }
        Check.holds("a throwing get or set changes nothing", before.same(new State(core)));
    }

    private static void setLeavesWhatIsUnderWay() {
        IntegerCore core = new IntegerCore();
        core.set(1, 11);
        core.set(2, 22);
        core.run(Words.formS(Words.STORE, 3, 1, 2, 4), 4);
        core.set(1, 0);
        core.set(2, 0);
        Check.equal("the address as it was", core.wanted(0), 15);
        Check.equal("the operand as it was", core.wanted(2), 22);
    }
}
