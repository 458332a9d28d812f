import java.math.BigInteger;

/** Promise 6, run: code 51, g 1, f 5 and f 7, which the class works out without the library. */
public final class UnsignedDivisionTest {
    private static final BigInteger TWO_64 = BigInteger.ONE.shiftLeft(64);
    private static final long MIN = Long.MIN_VALUE;
    private static final long MAX = Long.MAX_VALUE;

    public static void main(String[] args) {
        small();
        onlyXAboveMax();
        onlyYAboveMax();
        bothAboveMax();
        equal();
        byZero();
        byOne();
        byMinusOne();
        aroundPowersOfTwo();
        aroundMultiples();
        Check.end();
    }

    private static void small() {
        check(0, 3, 0, 0);
        check(2, 3, 0, 2);
        check(7, 2, 3, 1);
        check(100, 10, 10, 0);
        check(99, 10, 9, 9);
        check(MAX, 2, MAX / 2, 1);
        check(MAX - 1, MAX, 0, MAX - 1);
    }

    private static void onlyXAboveMax() {
        check(MIN, 2, 0x4000000000000000L, 0);
        check(MIN, 3, 0x2aaaaaaaaaaaaaaaL, 2);
        check(-1, 2, MAX, 1);
        check(-1, 3, 0x5555555555555555L, 0);
        check(-1, 10, 1844674407370955161L, 5);
        check(-2, 10, 1844674407370955161L, 4);
        check(MIN, MAX, 1, 1);
        check(-3, MAX, 1, MAX - 1);
        check(-2, MAX, 2, 0);
        check(-1, MAX, 2, 1);
    }

    private static void onlyYAboveMax() {
        check(0, MIN, 0, 0);
        check(7, -7, 0, 7);
        check(MAX, MIN, 0, MAX);
        check(MAX, MIN + 1, 0, MAX);
    }

    private static void bothAboveMax() {
        check(-1, MIN, 1, MAX);
        check(MIN, MIN + 1, 0, MIN);
        check(MIN + 1, MIN, 1, 1);
        check(-7, -2, 0, -7);
        check(-2, -7, 1, 5);
    }

    private static void equal() {
        for (long x : new long[] {1, 2, 3, 1000000007L, MAX - 1, MAX, MIN, MIN + 1, -1000000007L, -2, -1}) {
            check(x, x, 1, 0);
        }
    }

    private static void byZero() {
        for (long x : new long[] {0, 1, 7, MAX, MIN, -7, -1}) {
            check(x, 0, -1, x);
        }
    }

    private static void byOne() {
        for (long x : new long[] {0, 1, 7, MAX, MIN, MIN + 1, -7, -2, -1}) {
            check(x, 1, x, 0);
        }
    }

    private static void byMinusOne() {
        for (long x : new long[] {0, 1, 7, MAX, MIN, MIN + 1, -7, -2}) {
            check(x, -1, 0, x);
        }
        check(-1, -1, 1, 0);
    }

    private static void aroundPowersOfTwo() {
        for (int i = 0; i < 64; i++) {
            for (int j = 0; j < 64; j++) {
                for (int k = -1; k <= 1; k++) {
                    checkExact((1L << i) + k, (1L << j) - 1);
                    checkExact((1L << i) + k, 1L << j);
                    checkExact((1L << i) + k, (1L << j) + 1);
                }
            }
        }
    }

    /** The greatest multiples of y below 2^64 and 2^63, and their neighbours: there a quotient is missed by 1. */
    private static void aroundMultiples() {
        long[] divisors = {
            2, 3, 5, 7, 10, 641, 65537, 1000000007L, 0xffffffffL, 0x100000001L, 0x123456789abcdefL,
            MAX / 3, MAX / 2, MAX - 1,
        };
        for (long y : divisors) {
            BigInteger by = BigInteger.valueOf(y);
            long below64 = TWO_64.subtract(TWO_64.mod(by)).longValue();
            long below63 = MAX - MAX % y;
            for (int k = -2; k <= 2; k++) {
                checkExact(below64 + k, y);
                checkExact(below64 - y + k, y);
                checkExact(below63 + k, y);
                checkExact(below63 + y + k, y);
            }
        }
    }

    private static void checkExact(long x, long y) {
        BigInteger ux = BigInteger.valueOf(x).mod(TWO_64);
        BigInteger uy = BigInteger.valueOf(y).mod(TWO_64);
        if (uy.signum() == 0) {
            check(x, y, -1, x);
        } else {
            check(x, y, ux.divide(uy).longValue(), ux.mod(uy).longValue());
        }
    }

    private static void check(long x, long y, long quotient, long rest) {
        IntegerCore core = new IntegerCore();
        core.set(1, x);
        core.set(2, y);
        String what = Long.toUnsignedString(x) + " by " + Long.toUnsignedString(y);
        Check.equal(what, core.run(Words.register(Words.LONGS, 1, 5, 3, 1, 2), 4), IntegerCore.DONE);
        Check.equal(what + ", the quotient", core.get(3), quotient);
        Check.equal(what, core.run(Words.register(Words.LONGS, 1, 7, 4, 1, 2), 4), IntegerCore.DONE);
        Check.equal(what + ", the rest", core.get(4), rest);
    }
}
