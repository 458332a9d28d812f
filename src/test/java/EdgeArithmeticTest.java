/** The boundary cases of what promise 6 works out: wraps, comparisons, shifts, products, quotients and rests. */
public final class EdgeArithmeticTest {
    private static final long MIN = Samples.MIN;
    private static final long MAX = Samples.MAX;
    private static final long INT_MIN = Integer.MIN_VALUE;
    private static final long INT_MAX = Integer.MAX_VALUE;

    public static void main(String[] args) {
        longsWrap();
        intsWrap();
        upperBitsOfIntsAreLost();
        less();
        lessUnsigned();
        lessThanI();
        lessThanIUnsigned();
        branchesAtTheEdges();
        logicWithI();
        longShiftsByRegister();
        longShiftsByImmediate();
        intShiftsByRegister();
        intShiftsByImmediate();
        upperProducts();
        quotientsRoundTowardsZero();
        byZero();
        intsByZero();
        leastByMinusOne();
        leastIntByMinusOne();
        unsignedComesWithTheSameBits();
        Check.end();
    }

    // "Numbers wrap.": x + I, x + y, x - y and x * y of longs.
    private static void longsWrap() {
        withI(19, 0, MAX, 1, MIN);
        withI(19, 0, MAX, 2047, MIN + 2046);
        withI(19, 0, MIN, -1, MAX);
        withI(19, 0, MIN, -2048, MAX - 2047);
        withI(19, 0, -1, 1, 0);
        of(51, 0, 0, MAX, 1, MIN);
        of(51, 0, 0, MIN, -1, MAX);
        of(51, 0, 0, MIN, MIN, 0);
        of(51, 0, 0, MAX, MAX, -2);
        of(51, 32, 0, MIN, 1, MAX);
        of(51, 32, 0, MAX, -1, MIN);
        of(51, 32, 0, 0, MIN, MIN);
        of(51, 32, 0, MIN, MIN, 0);
        of(51, 1, 0, MAX, 2, -2);
        of(51, 1, 0, MIN, 2, 0);
        of(51, 1, 0, MIN, -1, MIN);
        of(51, 1, 0, MAX, MAX, 1);
        of(51, 1, 0, 0x100000000L, 0x100000000L, 0);
    }

    // "Numbers wrap." and "INT v is the number of the lowest 32 bits of v, as an int."
    private static void intsWrap() {
        withI(27, 0, INT_MAX, 1, INT_MIN);
        withI(27, 0, INT_MAX, 2047, INT_MIN + 2046);
        withI(27, 0, INT_MIN, -1, INT_MAX);
        withI(27, 0, INT_MIN, -2048, INT_MAX - 2047);
        withI(27, 0, 0xffffffffL, 1, 0);
        of(59, 0, 0, INT_MAX, 1, INT_MIN);
        of(59, 0, 0, INT_MIN, -1, INT_MAX);
        of(59, 0, 0, INT_MIN, INT_MIN, 0);
        of(59, 32, 0, INT_MIN, 1, INT_MAX);
        of(59, 32, 0, INT_MAX, -1, INT_MIN);
        of(59, 32, 0, 0, INT_MIN, INT_MIN);
        of(59, 1, 0, INT_MAX, 2, -2);
        of(59, 1, 0, INT_MIN, -1, INT_MIN);
        of(59, 1, 0, 0x10000, 0x10000, 0);
        of(59, 1, 0, 0x8000, 0x10000, INT_MIN);
    }

    // "with INT x and INT y as ints": what stands above the lowest 32 bits is not looked at.
    private static void upperBitsOfIntsAreLost() {
        long[] uppers = {0, 0x100000000L, 0x7fffffff00000000L, MIN, -0x100000000L};
        for (long upper : uppers) {
            withI(27, 0, upper | 5, -6, -1);
            withI(27, 0, upper | 0x7fffffffL, 1, INT_MIN);
            of(59, 0, 0, upper | 5, upper | 7, 12);
            of(59, 32, 0, upper | 5, upper | 7, -2);
            of(59, 0, 1, upper | 0x40000000L, upper | 1, INT_MIN);
            of(59, 0, 5, upper | 0x80000000L, upper | 31, 1);
            of(59, 32, 5, upper | 0x80000000L, upper | 31, -1);
            of(59, 1, 0, upper | 0xffffffffL, upper | 3, -3);
            of(59, 1, 4, upper | 0xfffffff9L, upper | 2, -3);
            of(59, 1, 5, upper | 0xfffffff9L, upper | 2, 0x7ffffffcL);
            of(59, 1, 6, upper | 0xfffffff9L, upper | 2, -1);
            of(59, 1, 7, upper | 0xfffffff9L, upper | 2, 1);
        }
    }

    // "1 if x is less than y, else 0"
    private static void less() {
        of(51, 0, 2, 5, 5, 0);
        of(51, 0, 2, 5, 6, 1);
        of(51, 0, 2, 6, 5, 0);
        of(51, 0, 2, MIN, MAX, 1);
        of(51, 0, 2, MAX, MIN, 0);
        of(51, 0, 2, -1, 0, 1);
        of(51, 0, 2, 0, -1, 0);
        of(51, 0, 2, MIN, MIN + 1, 1);
        of(51, 0, 2, MIN, MIN, 0);
        of(51, 0, 2, MAX - 1, MAX, 1);
        of(51, 0, 2, 0, 0x100000000L, 1);
    }

    // "likewise unsigned": longs "are taken as 0 .. 2^64 - 1".
    private static void lessUnsigned() {
        of(51, 0, 3, 5, 5, 0);
        of(51, 0, 3, 5, 6, 1);
        of(51, 0, 3, 6, 5, 0);
        of(51, 0, 3, MIN, MAX, 0);
        of(51, 0, 3, MAX, MIN, 1);
        of(51, 0, 3, -1, 0, 0);
        of(51, 0, 3, 0, -1, 1);
        of(51, 0, 3, -1, -1, 0);
        of(51, 0, 3, -2, -1, 1);
        of(51, 0, 3, MIN, MIN + 1, 1);
        of(51, 0, 3, 0, 0x100000000L, 1);
    }

    // "2: 1 if x is less than I, else 0"
    private static void lessThanI() {
        for (int i : new int[] {0, 1, -1, 2047, -2048}) {
            withI(19, 2, i - 1, i, 1);
            withI(19, 2, i, i, 0);
            withI(19, 2, i + 1, i, 0);
            withI(19, 2, MIN, i, 1);
            withI(19, 2, MAX, i, 0);
        }
    }

    // "3: likewise unsigned": a negative I stands near 2^64 then.
    private static void lessThanIUnsigned() {
        for (int i : new int[] {1, 2047, -1, -2047, -2048}) {
            withI(19, 3, i - 1, i, 1);
            withI(19, 3, i, i, 0);
            withI(19, 3, 0, i, 1);
            withI(19, 3, MAX, i, i < 0 ? 1 : 0);
            withI(19, 3, MIN, i, i < 0 ? 1 : 0);
        }
        withI(19, 3, -1, -2, 0);
        withI(19, 3, -1, 2047, 0);
        withI(19, 3, 0, 0, 0);
        withI(19, 3, -1, 0, 0);
        withI(19, 3, 2048, 2047, 0);
        withI(19, 3, 0xffffffffL, -1, 1);
    }

    // "0: x is y; 1: it isn't; 4: x is less than y; 5: it isn't; 6: it is less, unsigned; 7: it isn't"
    private static void branchesAtTheEdges() {
        for (long x : Samples.EDGES) {
            for (long y : Samples.EDGES) {
                boolean below = x < 0 == y < 0 ? x < y : y < 0;
                branch(0, x, y, x == y);
                branch(1, x, y, x != y);
                branch(4, x, y, x < y);
                branch(5, x, y, x >= y);
                branch(6, x, y, below);
                branch(7, x, y, !below);
            }
        }
    }

    private static void branch(int f, long x, long y, boolean taken) {
        IntegerCore core = new IntegerCore();
        core.set(6, x);
        core.set(7, y);
        Check.equal("code 99", core.run(Words.formB(f, 6, 7, -4096), 2), IntegerCore.DONE);
        Check.equal("counter() after code 99, f " + f + ": " + x + ", " + y, core.counter(), taken ? -4096 : 2);
    }

    // "4: x ^ I; 6: x | I; 7: x & I": the sign of I goes through all 64 bits.
    private static void logicWithI() {
        for (long x : Samples.EDGES) {
            withI(19, 4, x, 0, x);
            withI(19, 4, x, -1, -1 - x);
            withI(19, 6, x, 0, x);
            withI(19, 6, x, -1, -1);
            withI(19, 7, x, 0, 0);
            withI(19, 7, x, -1, x);
        }
        withI(19, 4, 0, -2048, -2048);
        withI(19, 6, 0, -2048, -2048);
        withI(19, 7, -1, -2048, -2048);
        withI(19, 7, -1, 2047, 2047);
        withI(19, 4, -1, 2047, -2048);
    }

    // "s being the six lowest bits of y"
    private static void longShiftsByRegister() {
        long[][] amounts = {
            {0, 0}, {1, 1}, {31, 31}, {32, 32}, {33, 33}, {62, 62}, {63, 63}, {64, 0}, {65, 1}, {127, 63}, {128, 0},
            {-1, 63}, {-2, 62}, {-63, 1}, {-64, 0}, {MIN, 0}, {MAX, 63}, {0x100000000L, 0}, {0x10000003fL, 63},
        };
        for (long[] amount : amounts) {
            checkLongShifts(amount[0], (int) amount[1]);
        }
    }

    private static void checkLongShifts(long y, int s) {
        of(51, 0, 1, 1, y, s == 63 ? MIN : power(s));
        of(51, 0, 1, -1, y, s == 63 ? MIN : -power(s));
        of(51, 0, 5, MIN, y, s == 0 ? MIN : power(63 - s));
        of(51, 0, 5, -1, y, s == 0 ? -1 : power(64 - s) - 1);
        of(51, 32, 5, MIN, y, s == 0 ? MIN : -power(63 - s));
        of(51, 32, 5, -1, y, -1);
        of(51, 32, 5, MAX, y, power(63 - s) - 1);
    }

    // "x << w[25:20]", "x >>> w[25:20]", "x >> w[25:20]": 0 to 63.
    private static void longShiftsByImmediate() {
        for (int s = 0; s < 64; s++) {
            withI(19, 1, 1, s, s == 63 ? MIN : power(s));
            withI(19, 1, -1, s, s == 63 ? MIN : -power(s));
            withI(19, 5, MIN, s, s == 0 ? MIN : power(63 - s));
            withI(19, 5, -1, s, s == 0 ? -1 : power(64 - s) - 1);
            withI(19, 5, MIN, 1024 + s, s == 0 ? MIN : -power(63 - s));
            withI(19, 5, -1, 1024 + s, -1);
            withI(19, 5, MAX, 1024 + s, power(63 - s) - 1);
        }
    }

    // "s being the five lowest bits of y"
    private static void intShiftsByRegister() {
        long[][] amounts = {
            {0, 0}, {1, 1}, {15, 15}, {16, 16}, {30, 30}, {31, 31}, {32, 0}, {33, 1}, {63, 31}, {64, 0}, {-1, 31},
            {-2, 30}, {-31, 1}, {-32, 0}, {MIN, 0}, {MAX, 31}, {0x100000000L, 0}, {0x10000001fL, 31},
        };
        for (long[] amount : amounts) {
            int s = (int) amount[1];
            of(59, 0, 1, 1, amount[0], s == 31 ? INT_MIN : power(s));
            of(59, 0, 1, -1, amount[0], -power(s));
            of(59, 0, 5, INT_MIN, amount[0], s == 0 ? INT_MIN : power(31 - s));
            of(59, 0, 5, -1, amount[0], s == 0 ? -1 : power(32 - s) - 1);
            of(59, 32, 5, INT_MIN, amount[0], -power(31 - s));
            of(59, 32, 5, -1, amount[0], -1);
            of(59, 32, 5, INT_MAX, amount[0], power(31 - s) - 1);
        }
    }

    // "INT (x << b)", "INT x >>> b", "INT x >> b": 0 to 31.
    private static void intShiftsByImmediate() {
        for (int s = 0; s < 32; s++) {
            withI(27, 1, 1, s, s == 31 ? INT_MIN : power(s));
            withI(27, 1, -1, s, -power(s));
            withI(27, 1, 0xffffffff00000000L, s, 0);
            withI(27, 5, INT_MIN, s, s == 0 ? INT_MIN : power(31 - s));
            withI(27, 5, 0xffffffffL, s, s == 0 ? -1 : power(32 - s) - 1);
            withI(27, 5, 0xffffffff00000000L, s, 0);
            withI(27, 5, 0x80000000L, 1024 + s, -power(31 - s));
            withI(27, 5, INT_MAX, 1024 + s, power(31 - s) - 1);
            withI(27, 5, 0xffffffff00000000L, 1024 + s, 0);
        }
    }

    private static long power(int exponent) {
        long power = 1;
        for (int k = 0; k < exponent; k++) {
            power *= 2;
        }
        return power;
    }

    // "the upper 64 bits of the whole product, 1: of x and y, 2: of x with its sign and y unsigned, 3: of both unsigned"
    private static void upperProducts() {
        upper(0, 0, 0, 0, 0);
        upper(0, -1, 0, 0, 0);
        upper(-1, 0, 0, 0, 0);
        upper(1, -1, -1, 0, 0);
        upper(-1, 1, -1, -1, 0);
        upper(-1, -1, 0, -1, -2);
        upper(MIN, MIN, 0x4000000000000000L, 0xc000000000000000L, 0x4000000000000000L);
        upper(MAX, MAX, 0x3fffffffffffffffL, 0x3fffffffffffffffL, 0x3fffffffffffffffL);
        upper(MIN, MAX, 0xc000000000000000L, 0xc000000000000000L, 0x3fffffffffffffffL);
        upper(MAX, MIN, 0xc000000000000000L, 0x3fffffffffffffffL, 0x3fffffffffffffffL);
        upper(MIN, -1, 0, MIN, MAX);
        upper(-1, MIN, 0, -1, MAX);
        upper(MIN, 2, -1, -1, 1);
        upper(2, MIN, -1, 1, 1);
        upper(0x100000000L, 0x100000000L, 1, 1, 1);
        upper(0xffffffffL, 0xffffffffL, 0, 0, 0);
        upper(-0x100000000L, 0x100000000L, -1, -1, 0xffffffffL);
    }

    private static void upper(long x, long y, long signs, long mixed, long unsigned) {
        of(51, 1, 1, x, y, signs);
        of(51, 1, 2, x, y, mixed);
        of(51, 1, 3, x, y, unsigned);
    }

    // "Quotients are rounded towards 0, rests are what is left then"
    private static void quotientsRoundTowardsZero() {
        for (int code : new int[] {51, 59}) {
            divided(code, 7, 2, 3, 1);
            divided(code, -7, 2, -3, -1);
            divided(code, 7, -2, -3, 1);
            divided(code, -7, -2, 3, -1);
            divided(code, 1, 2, 0, 1);
            divided(code, -1, 2, 0, -1);
            divided(code, 1, -2, 0, 1);
            divided(code, -1, -2, 0, -1);
            divided(code, 6, -3, -2, 0);
            divided(code, 0, -3, 0, 0);
            dividedUnsigned(code, 7, 2, 3, 1);
            dividedUnsigned(code, 8, 2, 4, 0);
            dividedUnsigned(code, 99, 10, 9, 9);
            dividedUnsigned(code, 100, 10, 10, 0);
            dividedUnsigned(code, 1, 2, 0, 1);
            dividedUnsigned(code, 0, 3, 0, 0);
        }
        divided(51, MIN, 2, MIN / 2, 0);
        divided(51, MAX, 2, MAX / 2, 1);
        divided(51, MIN, MAX, -1, -1);
        divided(51, MAX, MIN, 0, MAX);
        divided(51, MIN + 1, -1, MAX, 0);
        divided(59, INT_MIN, INT_MAX, -1, -1);
        divided(59, INT_MAX, INT_MIN, 0, INT_MAX);
        divided(59, INT_MIN + 1, -1, INT_MAX, 0);
    }

    // "by 0 the quotient is -1 (all bits 1), the rest what was to be divided"
    private static void byZero() {
        for (long x : Samples.EDGES) {
            divided(51, x, 0, -1, x);
            dividedUnsigned(51, x, 0, -1, x);
        }
    }

    // "by 0 ..", of ints: where INT y is 0, whatever stands above; INT x is what was to be divided.
    private static void intsByZero() {
        for (long y : new long[] {0, 0x100000000L, -0x100000000L, MIN, 0x7fffffff00000000L}) {
            for (long x : Samples.EDGES) {
                divided(59, x, y, -1, (int) x);
                dividedUnsigned(59, x, y, -1, (int) x);
            }
        }
    }

    // "the least number by -1 is itself, the rest 0"; unsigned there is nothing of the kind.
    private static void leastByMinusOne() {
        divided(51, MIN, -1, MIN, 0);
        dividedUnsigned(51, MIN, -1, 0, MIN);
        divided(51, MIN, 1, MIN, 0);
        divided(51, INT_MIN, -1, 0x80000000L, 0);
        divided(51, MIN, 0xffffffffL, -2147483648L, -2147483648L);
    }

    // "the least number by -1 is itself, the rest 0", of ints: as their lowest 32 bits tell it.
    private static void leastIntByMinusOne() {
        for (long x : new long[] {INT_MIN, 0x80000000L, 0x7fffffff80000000L}) {
            for (long y : new long[] {-1, 0xffffffffL, 0x7fffffffffffffffL}) {
                divided(59, x, y, INT_MIN, 0);
                dividedUnsigned(59, x, y, 0, INT_MIN);
            }
        }
        divided(59, MIN, -1, 0, 0);
    }

    // "What is unsigned comes as a number with the same bits."
    private static void unsignedComesWithTheSameBits() {
        dividedUnsigned(51, -1, 1, -1, 0);
        dividedUnsigned(51, MIN, 1, MIN, 0);
        dividedUnsigned(51, -2, -1, 0, -2);
        dividedUnsigned(51, -1, MIN, 1, MAX);
        dividedUnsigned(51, -1, 2, MAX, 1);
        dividedUnsigned(51, -1, 10, 1844674407370955161L, 5);
        dividedUnsigned(51, 7, -7, 0, 7);
        dividedUnsigned(51, MAX, MIN, 0, MAX);
        dividedUnsigned(51, -1, -1, 1, 0);
        dividedUnsigned(59, -1, 1, -1, 0);
        dividedUnsigned(59, 0xffffffffL, 1, -1, 0);
        dividedUnsigned(59, INT_MIN, 1, INT_MIN, 0);
        dividedUnsigned(59, 0xfffffffeL, 0xffffffffL, 0, -2);
        dividedUnsigned(59, -1, INT_MIN, 1, INT_MAX);
        dividedUnsigned(59, -1, 2, INT_MAX, 1);
        dividedUnsigned(59, -1, 10, 429496729, 5);
        dividedUnsigned(59, 7, -7, 0, 7);
        dividedUnsigned(59, INT_MAX, INT_MIN, 0, INT_MAX);
        dividedUnsigned(59, -1, 0xffffffffL, 1, 0);
    }

    private static void divided(int code, long x, long y, long quotient, long rest) {
        of(code, 1, 4, x, y, quotient);
        of(code, 1, 6, x, y, rest);
    }

    private static void dividedUnsigned(int code, long x, long y, long quotient, long rest) {
        of(code, 1, 5, x, y, quotient);
        of(code, 1, 7, x, y, rest);
    }

    private static void of(int code, int g, int f, long x, long y, long due) {
        IntegerCore core = new IntegerCore();
        core.set(6, x);
        core.set(7, y);
        check(core, Words.register(code, g, f, 5, 6, 7), "g " + g + ", f " + f + ": " + x + ", " + y, due);
    }

    private static void withI(int code, int f, long x, int i, long due) {
        IntegerCore core = new IntegerCore();
        core.set(6, x);
        check(core, Words.formI(code, f, 5, 6, i), "f " + f + ": " + x + " with I " + i, due);
    }

    private static void check(IntegerCore core, int word, String what, long due) {
        Check.equal(Samples.name(word) + ", " + what, core.run(word, 4), IntegerCore.DONE);
        Check.equal("d after " + Samples.name(word) + ", " + what, core.get(5), due);
    }
}
