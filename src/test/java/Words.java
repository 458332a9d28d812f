/** Puts instruction words together from their fields; an immediate is given as its number. */
final class Words {
    static final int UPPER = 55, UPPER_AND_COUNTER = 23, LINK = 111, LINK_REGISTER = 103, BRANCH = 99;
    static final int LONG_IMMEDIATE = 19, LONGS = 51, INT_IMMEDIATE = 27, INTS = 59, FENCE = 15;
    static final int LOAD = 3, STORE = 35, ATOMIC = 47, FLOAT_LOAD = 7, FLOAT_STORE = 39, CONTROL = 115;

    private Words() {
    }

    static int register(int code, int g, int f, int d, int a, int b) {
        return field(code, 6, 0) | field(d, 11, 7) | field(f, 14, 12) | field(a, 19, 15) | field(b, 24, 20)
                | field(g, 31, 25);
    }

    static int formI(int code, int f, int d, int a, int immediate) {
        return register(code, 0, f, d, a, 0) | field(signed(immediate, 12), 31, 20);
    }

    static int formS(int code, int f, int a, int b, int immediate) {
        int bits = signed(immediate, 12);
        return register(code, bits >>> 5, f, bits & 31, a, b);
    }

    static int formB(int f, int a, int b, int immediate) {
        int bits = signed(immediate, 13);
        return register(BRANCH, 0, f, 0, a, b) | field(bits >>> 12, 31, 31) | field(bits >>> 11 & 1, 7, 7)
                | field(bits >>> 5 & 63, 30, 25) | field(bits >>> 1 & 15, 11, 8);
    }

    /** The immediate's lowest twelve bits must be 0. */
    static int formU(int code, int d, int immediate) {
        if ((immediate & 4095) != 0) {
            throw new IllegalArgumentException("immediate " + immediate);
        }
        return immediate | register(code, 0, 0, d, 0, 0);
    }

    static int formJ(int d, int immediate) {
        int bits = signed(immediate, 21);
        return register(LINK, 0, 0, d, 0, 0) | field(bits >>> 20, 31, 31) | field(bits >>> 12 & 255, 19, 12)
                | field(bits >>> 11 & 1, 20, 20) | field(bits >>> 1 & 1023, 30, 21);
    }

    private static int field(int number, int high, int low) {
        if (number < 0 || number >= 1 << (high - low + 1)) {
            throw new IllegalArgumentException(number + " does not fit into bits " + high + " to " + low);
        }
        return number << low;
    }

    private static int signed(int number, int width) {
        if (number < -(1 << width - 1) || number >= 1 << width - 1) {
            throw new IllegalArgumentException(number + " does not fit into " + width + " bits");
        }
        return number & (1 << width) - 1;
    }
}
