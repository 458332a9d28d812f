/** Promise 8: finish. */
public final class FinishTest {
    private static final long V = 0x8182838485868788L;
    private static final long SMALL = 0x0102030405060708L;

    public static void main(String[] args) {
        loads();
        atomics();
        stores();
        othersGiveAll();
        withoutGetting();
        nothingUnderWay();
        registersOfNow();
        Check.end();
    }

    private static void loads() {
        long[] withSign = {-0x78, -0x7878, -0x7a797878, V};
        long[] small = {0x08, 0x0708, 0x05060708, SMALL};
        for (int f = 0; f < 4; f++) {
            check(Words.formI(3, f, 5, 0, 0), IntegerCore.LOAD, V, withSign[f]);
            check(Words.formI(3, f, 5, 0, 0), IntegerCore.LOAD, SMALL, small[f]);
            check(Words.formI(3, f, 5, 0, 0), IntegerCore.LOAD, -1, -1);
        }
        long[] withZeros = {0x88, 0x8788, 0x85868788L};
        for (int f = 4; f < 7; f++) {
            check(Words.formI(3, f, 5, 0, 0), IntegerCore.LOAD, V, withZeros[f - 4]);
            check(Words.formI(3, f, 5, 0, 0), IntegerCore.LOAD, SMALL, small[f - 4]);
        }
    }

    private static void atomics() {
        for (int sort : new int[] {0, 1, 2, 3, 4, 8, 12, 16, 20, 24, 28}) {
            check(Words.register(47, sort * 4, 2, 5, 0, 0), IntegerCore.ATOMIC, V, -0x7a797878);
            check(Words.register(47, sort * 4, 2, 5, 0, 0), IntegerCore.ATOMIC, SMALL, 0x05060708);
            check(Words.register(47, sort * 4, 3, 5, 0, 0), IntegerCore.ATOMIC, V, V);
        }
    }

    private static void stores() {
        IntegerCore core = new IntegerCore();
        for (int r = 1; r < 32; r++) {
            core.set(r, r);
        }
        for (int f = 0; f < 4; f++) {
            // The low bits of S stand where other instructions have d.
            core.run(Words.formS(35, f, 1, 2, 5), 4);
            Check.equal("finish of a store", core.finish(true, V), IntegerCore.STORE);
        }
        core.run(Words.formS(39, 3, 1, 2, 5), 4);
        Check.equal("finish of a float store", core.finish(true, V), IntegerCore.FLOAT);
        for (int r = 0; r < 32; r++) {
            Check.equal("get(" + r + ") after stores", core.get(r), r);
        }
        Check.equal("counter() after stores", core.counter(), 20);
    }

    private static void othersGiveAll() {
        check(Words.formI(7, 2, 5, 0, 0), IntegerCore.FLOAT, V, V);
        check(Words.formI(7, 3, 5, 0, 0), IntegerCore.FLOAT, V, V);
        for (int code : new int[] {67, 71, 75, 79, 83}) {
            check(Words.register(code, 0, 0, 5, 0, 0), IntegerCore.FLOAT, V, V);
        }
        for (int f : new int[] {0, 1, 2, 3, 5, 6, 7}) {
            check(Words.formI(115, f, 5, 0, 0), IntegerCore.CONTROL, V, V);
        }
    }

    private static void check(int word, int kind, long v, long due) {
        IntegerCore core = new IntegerCore();
        core.jump(100);
        core.run(word, 2);
        String what = "word " + Integer.toHexString(word) + " finished with " + v;
        Check.equal(what, core.finish(true, v), kind);
        Check.equal(what, core.get(5), due);
        Check.equal(what + " moves the counter", core.counter(), 102);
        Check.equal(what + " is done", core.done(), 1);
        Check.fails(what + " twice", IllegalStateException.class, () -> core.finish(true, v));
    }

    private static void withoutGetting() {
        int[] words = {
            Words.formI(3, 3, 5, 0, 0), Words.formS(35, 3, 0, 0, 0), Words.register(47, 0, 3, 5, 0, 0),
            Words.formI(7, 3, 5, 0, 0), Words.formI(115, 1, 5, 0, 0),
        };
        for (int k = 0; k < words.length; k++) {
            IntegerCore core = new IntegerCore();
            core.set(5, 55);
            core.run(words[k], 4);
            Check.equal("finish without getting", core.finish(false, V), IntegerCore.LOAD + k);
            Check.equal("d keeps what it held", core.get(5), 55);
            Check.equal("counter() all the same", core.counter(), 4);
            Check.equal("done() all the same", core.done(), 1);
            Check.equal("wanted(0) after it", core.wanted(0), -1);
        }
    }

    private static void nothingUnderWay() {
        IntegerCore core = new IntegerCore();
        core.set(5, 55);
        core.run(Words.formI(19, 0, 1, 0, 1), 4);
        State before = new State(core);
        Check.fails("finish(true, ..)", IllegalStateException.class, () -> core.finish(true, V));
        Check.fails("finish(false, ..)", IllegalStateException.class, () -> core.finish(false, V));
        Check.holds("a throwing finish changes nothing", before.same(new State(core)));
    }

    private static void registersOfNow() {
        IntegerCore core = new IntegerCore();
        core.set(5, 1000);
        core.run(Words.formI(3, 3, 5, 5, 8), 4);
        core.set(5, 0);
        Check.equal("wanted(0) as it was", core.wanted(0), 1008);
        core.finish(true, 7);
        Check.equal("d gets what came back", core.get(5), 7);
    }
}
