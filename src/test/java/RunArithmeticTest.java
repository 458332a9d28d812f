import java.math.BigInteger;

/** Promise 6, run: what is computed from registers and immediates, each against exact numbers. */
public final class RunArithmeticTest {
    private static final BigInteger TWO_64 = BigInteger.ONE.shiftLeft(64);
    private static final BigInteger TWO_32 = BigInteger.ONE.shiftLeft(32);

    private static final long[] NUMBERS = {
        0, 1, 2, 3, 7, 31, 32, 63, 64, 65, -1, -2, -3, -7, -64,
        Integer.MAX_VALUE, Integer.MIN_VALUE, 0x80000000L, 0xffffffffL, 0x100000000L, 0x7fffffff80000000L,
        Long.MAX_VALUE, Long.MIN_VALUE, Long.MIN_VALUE + 1, 0x0123456789abcdefL, 0xfedcba9876543210L,
        1000000007L, -1000000007L,
    };
    private static final int[] IMMEDIATES = {0, 1, 2, 5, 31, 32, 63, 64, 1023, 1024, 2047, -1, -2, -5, -1024, -2047, -2048};

    public static void main(String[] args) {
        namedEdges();
        for (long x : NUMBERS) {
            for (long y : NUMBERS) {
                checkPair(x, y);
            }
            checkImmediates(x);
            checkShifts(x);
        }
        sameRegisterTwice();
        Check.end();
    }

    private static void namedEdges() {
        long min = Long.MIN_VALUE;
        int intMin = Integer.MIN_VALUE;
        long[][] rows = {
            // code, g, f, x, y, due
            {51, 1, 4, 7, 0, -1}, {51, 1, 5, 7, 0, -1}, {51, 1, 6, 7, 0, 7}, {51, 1, 7, -7, 0, -7},
            {51, 1, 4, min, -1, min}, {51, 1, 6, min, -1, 0}, {51, 1, 5, min, -1, 0}, {51, 1, 7, min, -1, min},
            {51, 1, 4, -7, 2, -3}, {51, 1, 6, -7, 2, -1}, {51, 1, 4, 7, -2, -3}, {51, 1, 6, 7, -2, 1},
            {51, 1, 5, -1, 2, Long.MAX_VALUE}, {51, 1, 7, -1, 10, 5}, {51, 1, 5, -1, 1, -1},
            {51, 1, 1, -1, -1, 0}, {51, 1, 2, -1, -1, -1}, {51, 1, 3, -1, -1, -2}, {51, 1, 2, 1, -1, 0},
            {51, 0, 1, 1, 64, 1}, {51, 0, 1, 1, 63, min}, {51, 0, 5, -1, 63, 1}, {51, 32, 5, min, 63, -1},
            {51, 0, 2, -1, 0, 1}, {51, 0, 3, -1, 0, 0}, {51, 32, 0, min, 1, Long.MAX_VALUE},
            {59, 1, 4, 7, 0x100000000L, -1}, {59, 1, 5, 7, 0, -1}, {59, 1, 6, 0x80000000L, 0, intMin},
            {59, 1, 7, 0xffffffffL, 0, -1}, {59, 1, 4, intMin, -1, intMin}, {59, 1, 6, intMin, -1, 0},
            {59, 1, 5, -1, 1, -1}, {59, 1, 5, -1, 2, Integer.MAX_VALUE}, {59, 1, 7, -1, 10, 5},
            {59, 0, 0, Integer.MAX_VALUE, 1, intMin}, {59, 32, 0, intMin, 1, Integer.MAX_VALUE},
            {59, 0, 1, 1, 31, intMin}, {59, 0, 1, 1, 32, 1}, {59, 0, 5, -1, 32, -1}, {59, 0, 5, -1, 31, 1},
            {59, 32, 5, 0x80000000L, 31, -1}, {59, 32, 5, 0x7fffffff00000000L, 4, 0},
        };
        for (long[] row : rows) {
            check((int) row[0], (int) row[1], (int) row[2], row[3], row[4], row[5]);
        }
    }

    private static void checkPair(long x, long y) {
        BigInteger bx = BigInteger.valueOf(x);
        BigInteger by = BigInteger.valueOf(y);
        BigInteger ux = bx.mod(TWO_64);
        BigInteger uy = by.mod(TWO_64);
        int s = uy.mod(BigInteger.valueOf(64)).intValue();
        check(51, 0, 0, x, y, bx.add(by).longValue());
        check(51, 0, 1, x, y, bx.shiftLeft(s).longValue());
        check(51, 0, 2, x, y, bx.compareTo(by) < 0 ? 1 : 0);
        check(51, 0, 3, x, y, ux.compareTo(uy) < 0 ? 1 : 0);
        check(51, 0, 4, x, y, bx.xor(by).longValue());
        check(51, 0, 5, x, y, ux.shiftRight(s).longValue());
        check(51, 0, 6, x, y, bx.or(by).longValue());
        check(51, 0, 7, x, y, bx.and(by).longValue());
        check(51, 32, 0, x, y, bx.subtract(by).longValue());
        check(51, 32, 5, x, y, bx.shiftRight(s).longValue());
        check(51, 1, 0, x, y, bx.multiply(by).longValue());
        check(51, 1, 1, x, y, bx.multiply(by).shiftRight(64).longValue());
        check(51, 1, 2, x, y, bx.multiply(uy).shiftRight(64).longValue());
        check(51, 1, 3, x, y, ux.multiply(uy).shiftRight(64).longValue());
        check(51, 1, 4, x, y, quotient(bx, by).longValue());
        check(51, 1, 5, x, y, quotient(ux, uy).longValue());
        check(51, 1, 6, x, y, rest(bx, by).longValue());
        check(51, 1, 7, x, y, rest(ux, uy).longValue());
        checkIntPair(x, y);
    }

    private static void checkIntPair(long x, long y) {
        BigInteger ux = BigInteger.valueOf(x).mod(TWO_32);
        BigInteger uy = BigInteger.valueOf(y).mod(TWO_32);
        BigInteger bx = BigInteger.valueOf(ux.intValue());
        BigInteger by = BigInteger.valueOf(uy.intValue());
        int s = uy.mod(BigInteger.valueOf(32)).intValue();
        check(59, 0, 0, x, y, bx.add(by).intValue());
        check(59, 0, 1, x, y, bx.shiftLeft(s).intValue());
        check(59, 0, 5, x, y, ux.shiftRight(s).intValue());
        check(59, 32, 0, x, y, bx.subtract(by).intValue());
        check(59, 32, 5, x, y, bx.shiftRight(s).intValue());
        check(59, 1, 0, x, y, bx.multiply(by).intValue());
        check(59, 1, 4, x, y, quotient(bx, by).intValue());
        check(59, 1, 5, x, y, quotient(ux, uy).intValue());
        check(59, 1, 6, x, y, rest(bx, by).intValue());
        check(59, 1, 7, x, y, rest(ux, uy).intValue());
    }

    private static BigInteger quotient(BigInteger x, BigInteger y) {
        return y.signum() == 0 ? BigInteger.ONE.negate() : x.divide(y);
    }

    private static BigInteger rest(BigInteger x, BigInteger y) {
        return y.signum() == 0 ? x : x.remainder(y);
    }

    private static void checkImmediates(long x) {
        BigInteger bx = BigInteger.valueOf(x);
        for (int i : IMMEDIATES) {
            BigInteger bi = BigInteger.valueOf(i);
            checkWord(Words.formI(19, 0, 10, 11, i), x, bx.add(bi).longValue());
            checkWord(Words.formI(19, 2, 10, 11, i), x, bx.compareTo(bi) < 0 ? 1 : 0);
            checkWord(Words.formI(19, 3, 10, 11, i), x, bx.mod(TWO_64).compareTo(bi.mod(TWO_64)) < 0 ? 1 : 0);
            checkWord(Words.formI(19, 4, 10, 11, i), x, bx.xor(bi).longValue());
            checkWord(Words.formI(19, 6, 10, 11, i), x, bx.or(bi).longValue());
            checkWord(Words.formI(19, 7, 10, 11, i), x, bx.and(bi).longValue());
            checkWord(Words.formI(27, 0, 10, 11, i), x, bx.add(bi).intValue());
        }
    }

    private static void checkShifts(long x) {
        BigInteger bx = BigInteger.valueOf(x);
        for (int s = 0; s < 64; s++) {
            checkWord(Words.formI(19, 1, 10, 11, s), x, bx.shiftLeft(s).longValue());
            checkWord(Words.formI(19, 5, 10, 11, s), x, bx.mod(TWO_64).shiftRight(s).longValue());
            checkWord(Words.formI(19, 5, 10, 11, 1024 + s), x, bx.shiftRight(s).longValue());
        }
        BigInteger intX = BigInteger.valueOf(bx.intValue());
        for (int s = 0; s < 32; s++) {
            checkWord(Words.register(27, 0, 1, 10, 11, s), x, bx.shiftLeft(s).intValue());
            checkWord(Words.register(27, 0, 5, 10, 11, s), x, bx.mod(TWO_32).shiftRight(s).intValue());
            checkWord(Words.register(27, 32, 5, 10, 11, s), x, intX.shiftRight(s).intValue());
        }
    }

    private static void check(int code, int g, int f, long x, long y, long due) {
        IntegerCore core = new IntegerCore();
        core.set(12, x);
        core.set(13, y);
        String what = "code " + code + ", g " + g + ", f " + f + ": " + x + ", " + y;
        Check.equal(what, core.run(Words.register(code, g, f, 14, 12, 13), 4), IntegerCore.DONE);
        Check.equal(what, core.get(14), due);
        Check.equal(what + " moves the counter", core.counter(), 4);
    }

    private static void checkWord(int word, long x, long due) {
        IntegerCore core = new IntegerCore();
        core.set(11, x);
        String what = "word " + Integer.toHexString(word) + " with " + x;
        Check.equal(what, core.run(word, 2), IntegerCore.DONE);
        Check.equal(what, core.get(10), due);
        Check.equal(what + " moves the counter", core.counter(), 2);
    }

    private static void sameRegisterTwice() {
        IntegerCore core = new IntegerCore();
        core.set(31, 21);
        core.run(Words.register(51, 0, 0, 31, 31, 31), 4);
        Check.equal("x + x into x", core.get(31), 42);
        core.run(Words.register(51, 32, 0, 30, 0, 31), 4);
        Check.equal("register 0 as x", core.get(30), -42);
        core.run(Words.register(51, 1, 4, 29, 31, 0), 4);
        Check.equal("division by register 0", core.get(29), -1);
    }
}
