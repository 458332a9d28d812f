/**
 * The integer part of a 64-bit processor. Instructions that need memory, control registers or
 * floating point are only told as what they want, and finished with what comes back.
 */
public final class IntegerCore {
    public static final int ILLEGAL = -1, DONE = 0, FENCE = 1, LOAD = 2, STORE = 3, ATOMIC = 4, FLOAT = 5, CONTROL = 6;

    private static final int REGISTER_COUNT = 32;
    private static final long ALL_BUT_BIT_0 = ~1L;

    private final long[] registers;
    private long place;
    private long doneCount;

    // The length of the newest instruction: one under way still has to move the counter by it.
    private int step;

    // What is under way (LOAD .. CONTROL), or DONE when nothing is.
    private int underWay;
    private long address;
    private int size;
    private long operand;
    private int sort;
    private int target;

    public IntegerCore() {
        registers = new long[REGISTER_COUNT];
        underWay = DONE;
    }

    public long get(int r) throws IndexOutOfBoundsException {
        if (!isRegister(r)) {
            throw new IndexOutOfBoundsException("there is no such register");
        }
        return registers[r];
    }

    public void set(int r, long v) throws IndexOutOfBoundsException {
        if (!isRegister(r)) {
            throw new IndexOutOfBoundsException("there is no such register");
        }
        put(r, v);
    }

    public long counter() {
        return place;
    }

    public void jump(long v) {
        place = v & ALL_BUT_BIT_0;
        underWay = DONE;
    }

    public int run(int w, int length) throws IllegalArgumentException {
        if (length != 2 && length != 4) {
            throw new IllegalArgumentException("an instruction is 2 or 4 bytes long");
        }
        // Even an illegal instruction drops what was under way.
        underWay = DONE;
        step = length;
        switch (Word.code(w)) {
            case 55: return give(w, Word.immediateU(w));
            case 23: return give(w, place + Word.immediateU(w));
            case 111: return link(w, place + Word.immediateJ(w));
            case 103: return linkToRegister(w);
            case 99: return branch(w);
            case 19: return operateLongWithImmediate(w);
            case 51: return operateLongs(w);
            case 27: return operateIntWithImmediate(w);
            case 59: return operateInts(w);
            case 15: return fence(w);
            case 3: return load(w);
            case 35: return store(w);
            case 47: return atomic(w);
            case 7: return loadFloat(w);
            case 39: return storeFloat(w);
            case 67:
            case 71:
            case 75:
            case 79:
            case 83: return want(FLOAT, 0, 0, x(w), Word.code(w), Word.d(w));
            case 115: return control(w);
            default: return ILLEGAL;
        }
    }

    public long wanted(int what) {
        if (underWay == DONE) {
            return -1;
        }
        switch (what) {
            case 0: return address;
            case 1: return size;
            case 2: return operand;
            case 3: return sort;
            case 4: return target;
            default: return -1;
        }
    }

    public int finish(boolean gets, long v) throws IllegalStateException {
        if (underWay == DONE) {
            throw new IllegalStateException("nothing is under way");
        }
        int finished = underWay;
        if (gets) {
            put(target, trimmed(v));
        }
        underWay = DONE;
        complete(place + step);
        return finished;
    }

    public long done() {
        return doneCount;
    }

    private static boolean isRegister(int r) {
        return r >= 0 && r < REGISTER_COUNT;
    }

    // Every write goes through here, so that register 0 holds 0 always.
    private void put(int r, long v) {
        if (r != 0 && isRegister(r)) {
            registers[r] = v;
        }
    }

    // A field of five bits is a register always; the index is looked at all the same (LANGUAGE.md, rule 7).
    private long held(int r) {
        return isRegister(r) ? registers[r] : 0;
    }

    private long x(int w) {
        return held(Word.a(w));
    }

    private long y(int w) {
        return held(Word.b(w));
    }

    private int complete(long next) {
        place = next;
        doneCount++;
        return DONE;
    }

    private int give(int w, long v) {
        put(Word.d(w), v);
        return complete(place + step);
    }

    private int link(int w, long next) {
        put(Word.d(w), place + step);
        return complete(next);
    }

    private int linkToRegister(int w) {
        if (Word.f(w) != 0) {
            return ILLEGAL;
        }
        return link(w, (x(w) + Word.immediateI(w)) & ALL_BUT_BIT_0);
    }

    private int branch(int w) {
        int f = Word.f(w);
        if (f == 2 || f == 3) {
            return ILLEGAL;
        }
        return complete(place + (Longs.compares(f, x(w), y(w)) ? Word.immediateB(w) : step));
    }

    private int operateLongWithImmediate(int w) {
        int f = Word.f(w);
        int above = Word.aboveLongShift(w);
        long x = x(w);
        long i = Word.immediateI(w);
        if (f == 5 && above == 16) {
            return give(w, Longs.shiftRightWithSign(x, i));
        }
        if ((f == 1 || f == 5) && above != 0) {
            return ILLEGAL;
        }
        // Shifts look at the six lowest bits of I alone, and these are w[25:20].
        return give(w, Longs.plain(f, x, i));
    }

    private int operateLongs(int w) {
        int f = Word.f(w);
        long x = x(w);
        long y = y(w);
        switch (Word.g(w)) {
            case 0: return give(w, Longs.plain(f, x, y));
            case 1: return give(w, Longs.product(f, x, y));
            case 32:
                if (f == 0) {
                    return give(w, x - y);
                }
                return f == 5 ? give(w, Longs.shiftRightWithSign(x, y)) : ILLEGAL;
            default: return ILLEGAL;
        }
    }

    private int operateIntWithImmediate(int w) {
        int f = Word.f(w);
        int g = Word.g(w);
        int x = (int) x(w);
        if (f == 0) {
            return give(w, x + Word.immediateI(w));
        }
        if (f == 5 && g == 32) {
            return give(w, Ints.shiftRightWithSign(x, Word.b(w)));
        }
        if ((f == 1 || f == 5) && g == 0) {
            return give(w, Ints.plain(f, x, Word.b(w)));
        }
        return ILLEGAL;
    }

    private int operateInts(int w) {
        int f = Word.f(w);
        int x = (int) x(w);
        int y = (int) y(w);
        switch (Word.g(w)) {
            case 0: return f == 0 || f == 1 || f == 5 ? give(w, Ints.plain(f, x, y)) : ILLEGAL;
            case 1: return f == 0 || f >= 4 ? give(w, Ints.product(f, x, y)) : ILLEGAL;
            case 32:
                if (f == 0) {
                    return give(w, x - y);
                }
                return f == 5 ? give(w, Ints.shiftRightWithSign(x, y)) : ILLEGAL;
            default: return ILLEGAL;
        }
    }

    private int fence(int w) {
        if (Word.f(w) > 1) {
            return ILLEGAL;
        }
        complete(place + step);
        return FENCE;
    }

    private int want(int kind, long atAddress, int ofSize, long withOperand, int ofSort, int d) {
        underWay = kind;
        address = atAddress;
        size = ofSize;
        operand = withOperand;
        sort = ofSort;
        target = d;
        return kind;
    }

    private int load(int w) {
        int f = Word.f(w);
        if (f > 6) {
            return ILLEGAL;
        }
        return want(LOAD, x(w) + Word.immediateI(w), 1 << (f & 3), 0, f > 3 ? 1 : 0, Word.d(w));
    }

    private int store(int w) {
        int f = Word.f(w);
        if (f > 3) {
            return ILLEGAL;
        }
        return want(STORE, x(w) + Word.immediateS(w), 1 << f, y(w), 0, 0);
    }

    private int atomic(int w) {
        int f = Word.f(w);
        if (!isFourOrEightBytes(f) || !isAtomicSort(Word.atomicSort(w), Word.b(w))) {
            return ILLEGAL;
        }
        return want(ATOMIC, x(w), 1 << f, y(w), Word.atomicSort(w), Word.d(w));
    }

    private static boolean isFourOrEightBytes(int f) {
        return f == 2 || f == 3;
    }

    private static boolean isAtomicSort(int atomicSort, int b) {
        if (atomicSort == 2) {
            return b == 0;
        }
        return atomicSort < 4 || atomicSort % 4 == 0;
    }

    private int loadFloat(int w) {
        int f = Word.f(w);
        if (!isFourOrEightBytes(f)) {
            return ILLEGAL;
        }
        return want(FLOAT, x(w) + Word.immediateI(w), 1 << f, 0, Word.code(w), Word.d(w));
    }

    private int storeFloat(int w) {
        int f = Word.f(w);
        if (!isFourOrEightBytes(f)) {
            return ILLEGAL;
        }
        return want(FLOAT, x(w) + Word.immediateS(w), 1 << f, 0, Word.code(w), 0);
    }

    private int control(int w) {
        int f = Word.f(w);
        if (f == 4) {
            return ILLEGAL;
        }
        return want(CONTROL, Word.controlNumber(w), 0, f > 4 ? Word.a(w) : x(w), f, Word.d(w));
    }

    // A STORE needs no case of its own: its d is register 0.
    private long trimmed(long v) {
        if (underWay == LOAD) {
            int spare = 64 - 8 * size;
            return sort == 0 ? v << spare >> spare : v << spare >>> spare;
        }
        if (underWay == ATOMIC && size == 4) {
            return (int) v;
        }
        return v;
    }

    /** Takes an instruction word apart. */
    private static final class Word {
        // w[high:low] of the document; never all 32 bits, for which 1 << 32 would be 1.
        private static int bits(int w, int high, int low) {
            return (w >>> low) & ((1 << (high - low + 1)) - 1);
        }

        static int code(int w) {
            return bits(w, 6, 0);
        }

        static int d(int w) {
            return bits(w, 11, 7);
        }

        static int f(int w) {
            return bits(w, 14, 12);
        }

        static int a(int w) {
            return bits(w, 19, 15);
        }

        static int b(int w) {
            return bits(w, 24, 20);
        }

        static int g(int w) {
            return bits(w, 31, 25);
        }

        static int aboveLongShift(int w) {
            return bits(w, 31, 26);
        }

        static int atomicSort(int w) {
            return bits(w, 31, 27);
        }

        static int controlNumber(int w) {
            return bits(w, 31, 20);
        }

        // In every immediate the sign is w[31]: a shift with sign brings it along.
        static int immediateI(int w) {
            return w >> 20;
        }

        static int immediateS(int w) {
            return w >> 25 << 5 | bits(w, 11, 7);
        }

        static int immediateB(int w) {
            return w >> 31 << 12 | bits(w, 7, 7) << 11 | bits(w, 30, 25) << 5 | bits(w, 11, 8) << 1;
        }

        static int immediateU(int w) {
            return w >> 12 << 12;
        }

        static int immediateJ(int w) {
            return w >> 31 << 20 | bits(w, 19, 12) << 12 | bits(w, 20, 20) << 11 | bits(w, 30, 21) << 1;
        }
    }

    /** What instructions do with longs. */
    private static final class Longs {
        static boolean compares(int f, long x, long y) {
            switch (f) {
                case 0: return x == y;
                case 1: return x != y;
                case 4: return x < y;
                case 5: return x >= y;
                case 6: return isBelow(x, y);
                case 7: return !isBelow(x, y);
                default: return false;
            }
        }

        static long plain(int f, long x, long y) {
            switch (f) {
                case 0: return x + y;
                case 1: return x << (y & 63);
                case 2: return x < y ? 1 : 0;
                case 3: return isBelow(x, y) ? 1 : 0;
                case 4: return x ^ y;
                case 5: return x >>> (y & 63);
                case 6: return x | y;
                default: return x & y;
            }
        }

        static long shiftRightWithSign(long x, long y) {
            return x >> (y & 63);
        }

        static long product(int f, long x, long y) {
            switch (f) {
                case 0: return x * y;
                case 1: return Math.multiplyHigh(x, y);
                case 2: return highWithUnsigned(x, y);
                case 3: return highUnsigned(x, y);
                case 4: return y == 0 ? -1 : x / y;
                case 5: return quotientUnsigned(x, y);
                case 6: return y == 0 ? x : x % y;
                default: return restUnsigned(x, y);
            }
        }

        private static boolean isBelow(long x, long y) {
            return Long.compareUnsigned(x, y) < 0;
        }

        // y unsigned is y + 2^64 where y is negative, which adds x to the upper 64 bits.
        private static long highWithUnsigned(long x, long y) {
            return Math.multiplyHigh(x, y) + (y < 0 ? x : 0);
        }

        private static long highUnsigned(long x, long y) {
            return highWithUnsigned(x, y) + (x < 0 ? y : 0);
        }

        // Written out, as LANGUAGE.md leaves out the library's unsigned division of longs.
        private static long quotientUnsigned(long x, long y) {
            if (y == 0) {
                return -1;
            }
            // y is 2^63 or more when taken unsigned: no x holds it twice.
            if (y < 0) {
                return isBelow(x, y) ? 0 : 1;
            }
            // Half of x has no sign; twice its quotient is the quotient of x, or 1 less.
            long even = (x >>> 1) / y << 1;
            return isBelow(x - even * y, y) ? even : even + 1;
        }

        // By 0 the product is 0, which leaves x, as the document asks.
        private static long restUnsigned(long x, long y) {
            return x - quotientUnsigned(x, y) * y;
        }
    }

    /** What instructions do with ints. */
    private static final class Ints {
        static int plain(int f, int x, int y) {
            switch (f) {
                case 0: return x + y;
                case 1: return x << (y & 31);
                default: return x >>> (y & 31);
            }
        }

        static int shiftRightWithSign(int x, int y) {
            return x >> (y & 31);
        }

        static int product(int f, int x, int y) {
            switch (f) {
                case 0: return x * y;
                case 4: return y == 0 ? -1 : x / y;
                case 5: return y == 0 ? -1 : Integer.divideUnsigned(x, y);
                case 6: return y == 0 ? x : x % y;
                default: return y == 0 ? x : Integer.remainderUnsigned(x, y);
            }
        }
    }
}
