/** Promise 6, run: lengths, upper immediates, links, branches and fences. */
public final class RunFlowTest {
    public static void main(String[] args) {
        wrongLengthsThrow();
        lengthMovesTheCounter();
        upperImmediates();
        links();
        linksToRegisters();
        branchImmediates();
        branchConditions();
        fences();
        runDropsWhatIsUnderWay();
        Check.end();
    }

    private static void wrongLengthsThrow() {
        IntegerCore core = new IntegerCore();
        core.set(1, 11);
        core.run(Words.formI(Words.LOAD, 3, 2, 1, 0), 4);
        State before = new State(core);
        int word = Words.formI(Words.LONG_IMMEDIATE, 0, 1, 1, 1);
        for (int length : new int[] {0, 1, 3, 5, 6, 8, -2, -4, Integer.MIN_VALUE, Integer.MAX_VALUE}) {
            Check.fails("run(.., " + length + ")", IllegalArgumentException.class, () -> core.run(word, length));
            Check.fails("illegal run(0, " + length + ")", IllegalArgumentException.class, () -> core.run(0, length));
        }
        Check.holds("a throwing run changes nothing", before.same(new State(core)));
        Check.equal("finish after a throwing run", core.finish(true, 5), IntegerCore.LOAD);
        Check.equal("counter() grew by the first length", core.counter(), 4);
    }

    private static void lengthMovesTheCounter() {
        IntegerCore core = new IntegerCore();
        int word = Words.formI(Words.LONG_IMMEDIATE, 0, 1, 1, 1);
        Check.equal("run of 4 bytes", core.run(word, 4), IntegerCore.DONE);
        Check.equal("counter()", core.counter(), 4);
        Check.equal("run of 2 bytes", core.run(word, 2), IntegerCore.DONE);
        Check.equal("counter()", core.counter(), 6);
        Check.equal("get(1)", core.get(1), 2);
    }

    private static void upperImmediates() {
        IntegerCore core = new IntegerCore();
        int[] immediates = {0, 4096, 0x7ffff000, 0x80000000, 0xfffff000, 0x12345000};
        long[] due = {0, 4096, 2147479552L, -2147483648L, -4096, 305418240L};
        for (int k = 0; k < immediates.length; k++) {
            core.jump(1000);
            core.run(Words.formU(Words.UPPER, 3, immediates[k]), 4);
            Check.equal("55 with " + immediates[k], core.get(3), due[k]);
            core.run(Words.formU(Words.UPPER_AND_COUNTER, 4, immediates[k]), 2);
            Check.equal("23 with " + immediates[k], core.get(4), 1004 + due[k]);
            Check.equal("counter()", core.counter(), 1006);
        }
    }

    private static void links() {
        IntegerCore core = new IntegerCore();
        for (int bit = 1; bit < 20; bit++) {
            checkLink(core, 1 << bit);
            checkLink(core, -(1 << bit));
        }
        checkLink(core, 0);
        checkLink(core, -1048576);
        checkLink(core, 1048574);
    }

    private static void checkLink(IntegerCore core, int immediate) {
        core.jump(0x100000000L);
        Check.equal("111", core.run(Words.formJ(1, immediate), 2), IntegerCore.DONE);
        Check.equal("111 by " + immediate, core.counter(), 0x100000000L + immediate);
        Check.equal("111 links", core.get(1), 0x100000002L);
        core.run(Words.formJ(1, immediate), 4);
        Check.equal("111 links with 4", core.get(1), 0x100000004L + immediate);
    }

    private static void linksToRegisters() {
        IntegerCore core = new IntegerCore();
        core.jump(100);
        core.set(5, 4097);
        Check.equal("103", core.run(Words.formI(Words.LINK_REGISTER, 0, 6, 5, -2), 4), IntegerCore.DONE);
        Check.equal("103 drops bit 0", core.counter(), 4094);
        Check.equal("103 links", core.get(6), 104);
        core.run(Words.formI(Words.LINK_REGISTER, 0, 5, 5, 2047), 2);
        Check.equal("103 takes x as it was before", core.counter(), 6144);
        Check.equal("103 links into a itself", core.get(5), 4096);
        core.run(Words.formI(Words.LINK_REGISTER, 0, 0, 0, -2048), 4);
        Check.equal("103 with the least I", core.counter(), -2048);
    }

    private static void branchImmediates() {
        IntegerCore core = new IntegerCore();
        for (int bit = 1; bit < 12; bit++) {
            checkBranch(core, 1 << bit);
            checkBranch(core, -(1 << bit));
        }
        checkBranch(core, 0);
        checkBranch(core, -4096);
        checkBranch(core, 4094);
    }

    private static void checkBranch(IntegerCore core, int immediate) {
        core.jump(10000);
        Check.equal("99", core.run(Words.formB(0, 0, 0, immediate), 4), IntegerCore.DONE);
        Check.equal("99 by " + immediate, core.counter(), 10000 + immediate);
        core.jump(10000);
        Check.equal("99 not taken", core.run(Words.formB(1, 0, 0, immediate), 2), IntegerCore.DONE);
        Check.equal("99 not taken, by its length", core.counter(), 10002);
    }

    private static void branchConditions() {
        long min = Long.MIN_VALUE;
        long max = Long.MAX_VALUE;
        // For f 0, 1, 4, 5, 6, 7: 1 if the branch is taken.
        checkConditions(0, 0, "100101");
        checkConditions(min, min, "100101");
        checkConditions(-1, -1, "100101");
        checkConditions(1, 2, "011010");
        checkConditions(2, 1, "010101");
        checkConditions(-1, 1, "011001");
        checkConditions(1, -1, "010110");
        checkConditions(min, max, "011001");
        checkConditions(max, min, "010110");
        checkConditions(min, -1, "011010");
        checkConditions(-1, min, "010101");
        checkConditions(0x100000000L, 0, "010101");
    }

    private static void checkConditions(long x, long y, String taken) {
        int[] conditions = {0, 1, 4, 5, 6, 7};
        IntegerCore core = new IntegerCore();
        core.set(8, x);
        core.set(9, y);
        for (int k = 0; k < conditions.length; k++) {
            core.jump(1000);
            core.run(Words.formB(conditions[k], 8, 9, 64), 4);
            Check.equal("99, f " + conditions[k] + ", " + x + " with " + y, core.counter(),
                    taken.charAt(k) == '1' ? 1064 : 1004);
        }
        Check.equal("branches leave x", core.get(8), x);
        Check.equal("branches leave y", core.get(9), y);
    }

    private static void fences() {
        IntegerCore core = new IntegerCore();
        core.set(3, 33);
        Check.equal("15, f 0", core.run(Words.register(Words.FENCE, 127, 0, 3, 3, 31), 4), IntegerCore.FENCE);
        Check.equal("15, f 1", core.run(Words.register(Words.FENCE, 0, 1, 3, 0, 0), 2), IntegerCore.FENCE);
        Check.equal("a fence moves the counter", core.counter(), 6);
        Check.equal("a fence is done", core.done(), 2);
        Check.equal("a fence gives nothing", core.get(3), 33);
        Check.equal("a fence wants nothing", core.wanted(0), -1);
    }

    private static void runDropsWhatIsUnderWay() {
        int[] droppers = {Words.formI(Words.LONG_IMMEDIATE, 0, 1, 0, 1), Words.register(Words.FENCE, 0, 0, 0, 0, 0), 0};
        int[] answers = {IntegerCore.DONE, IntegerCore.FENCE, IntegerCore.ILLEGAL};
        for (int k = 0; k < droppers.length; k++) {
            IntegerCore core = new IntegerCore();
            core.run(Words.formI(Words.LOAD, 3, 2, 0, 16), 4);
            Check.equal("run that drops", core.run(droppers[k], 4), answers[k]);
            Check.equal("wanted(0) after " + answers[k], core.wanted(0), -1);
            Check.fails("finish after " + answers[k], IllegalStateException.class, () -> core.finish(true, 1));
        }
        IntegerCore core = new IntegerCore();
        core.run(Words.formI(Words.LOAD, 3, 2, 0, 16), 4);
        core.run(Words.formS(Words.STORE, 0, 0, 0, 8), 2);
        Check.equal("wanted(0) of the newer one", core.wanted(0), 8);
        Check.equal("finish of the newer one", core.finish(true, 1), IntegerCore.STORE);
        Check.equal("counter() by the newer length", core.counter(), 2);
        Check.equal("done() counts the newer one alone", core.done(), 1);
    }
}
