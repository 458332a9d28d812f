/** Promise 7: wanted, and with it what promise 6 tells as wanted. */
public final class WantedTest {
    private static final long X = 0x7000000000000010L;
    private static final long Y = -0x123456789abcdefL;

    public static void main(String[] args) {
        loads();
        stores();
        atomics();
        floats();
        controls();
        otherNumbers();
        Check.end();
    }

    private static void loads() {
        int[] sizes = {1, 2, 4, 8, 1, 2, 4};
        for (int f = 0; f < 7; f++) {
            for (int i : new int[] {0, 1, 2047, -1, -2048}) {
                check(Words.formI(3, f, 31, 1, i), IntegerCore.LOAD, X + i, sizes[f], 0, f > 3 ? 1 : 0, 31);
            }
        }
        check(Words.formI(3, 0, 0, 0, -1), IntegerCore.LOAD, -1, 1, 0, 0, 0);
    }

    private static void stores() {
        int[] sizes = {1, 2, 4, 8};
        for (int f = 0; f < 4; f++) {
            for (int i : new int[] {0, 1, 16, 31, 32, 2047, -1, -32, -2048}) {
                check(Words.formS(35, f, 1, 2, i), IntegerCore.STORE, X + i, sizes[f], Y, 0, 0);
            }
        }
    }

    private static void atomics() {
        for (int sort : new int[] {0, 1, 3, 4, 8, 12, 16, 20, 24, 28}) {
            // w[26:25] may be anything.
            for (int order = 0; order < 4; order++) {
                check(Words.register(47, sort * 4 + order, 2, 9, 1, 2), IntegerCore.ATOMIC, X, 4, Y, sort, 9);
                check(Words.register(47, sort * 4 + order, 3, 9, 1, 2), IntegerCore.ATOMIC, X, 8, Y, sort, 9);
            }
        }
        check(Words.register(47, 8, 2, 9, 1, 0), IntegerCore.ATOMIC, X, 4, 0, 2, 9);
        check(Words.register(47, 11, 3, 9, 1, 0), IntegerCore.ATOMIC, X, 8, 0, 2, 9);
    }

    private static void floats() {
        check(Words.formI(7, 2, 9, 1, -2048), IntegerCore.FLOAT, X - 2048, 4, 0, 7, 9);
        check(Words.formI(7, 3, 9, 1, 2047), IntegerCore.FLOAT, X + 2047, 8, 0, 7, 9);
        check(Words.formS(39, 2, 1, 2, -2047), IntegerCore.FLOAT, X - 2047, 4, 0, 39, 0);
        check(Words.formS(39, 3, 1, 2, 2047), IntegerCore.FLOAT, X + 2047, 8, 0, 39, 0);
        for (int code : new int[] {67, 71, 75, 79, 83}) {
            check(Words.register(code, 127, 7, 9, 1, 2), IntegerCore.FLOAT, 0, 0, X, code, 9);
            check(Words.register(code, 0, 0, 9, 2, 1), IntegerCore.FLOAT, 0, 0, Y, code, 9);
        }
    }

    private static void controls() {
        for (int f = 0; f < 4; f++) {
            check(Words.formI(115, f, 9, 1, 1), IntegerCore.CONTROL, 1, 0, X, f, 9);
            check(Words.formI(115, f, 9, 1, -1), IntegerCore.CONTROL, 4095, 0, X, f, 9);
        }
        for (int f = 5; f < 8; f++) {
            check(Words.formI(115, f, 9, 1, -2048), IntegerCore.CONTROL, 2048, 0, 1, f, 9);
            check(Words.formI(115, f, 9, 31, 2047), IntegerCore.CONTROL, 2047, 0, 31, f, 9);
        }
    }

    private static void check(int word, int kind, long address, long size, long operand, long sort, long d) {
        IntegerCore core = new IntegerCore();
        core.set(1, X);
        core.set(2, Y);
        core.jump(100);
        String what = "word " + Integer.toHexString(word);
        Check.equal(what, core.run(word, 4), kind);
        Check.equal(what + " wants an address", core.wanted(0), address);
        Check.equal(what + " wants a size", core.wanted(1), size);
        Check.equal(what + " wants an operand", core.wanted(2), operand);
        Check.equal(what + " wants a sort", core.wanted(3), sort);
        Check.equal(what + " wants a d", core.wanted(4), d);
        Check.equal(what + " leaves the counter", core.counter(), 100);
        Check.equal(what + " is not done", core.done(), 0);
        Check.equal(what + " leaves x", core.get(1), X);
        Check.equal(what + " leaves d", core.get(9), 0);
    }

    private static void otherNumbers() {
        IntegerCore core = new IntegerCore();
        int[] others = {-1, 5, 6, Integer.MIN_VALUE, Integer.MAX_VALUE};
        for (int what = 0; what < 5; what++) {
            Check.equal("wanted with nothing under way", core.wanted(what), -1);
        }
        core.run(Words.formI(3, 3, 2, 0, 16), 4);
        for (int what : others) {
            Check.equal("wanted(" + what + ")", core.wanted(what), -1);
        }
        Check.equal("wanted answers again", core.wanted(0), 16);
        Check.equal("wanted answers again", core.wanted(0), 16);
        core.finish(true, 1);
        for (int what = 0; what < 5; what++) {
            Check.equal("wanted after finish", core.wanted(what), -1);
        }
    }
}
