import java.math.BigInteger;

/**
 * The document said once more, sentence by sentence, to compare a core with. It works on rows of bits and on
 * numbers without end, so that it shares no way of reckoning with the class.
 */
final class Model {
    private static final String[] PLAIN = {"+", "<<", "less", "less unsigned", "^", ">>>", "|", "&"};
    private static final String[] TURNED = {"-", null, null, null, null, ">>", null, null};
    private static final String[] PRODUCTS = {"*", "upper", "upper half unsigned", "upper unsigned", "/", "/ unsigned",
        "rest", "rest unsigned"};
    private static final String[] INT_PLAIN = {"+", "<<", null, null, null, ">>>", null, null};
    private static final String[] INT_PRODUCTS = {"*", null, null, null, "/", "/ unsigned", "rest", "rest unsigned"};
    private static final String ATOMIC_SORTS = " 0 1 2 3 4 8 12 16 20 24 28 ";

    private final BigInteger[] registers = new BigInteger[32];
    private BigInteger counter = BigInteger.ZERO;
    private long done;
    private int kind;
    // The five numbers of what is under way, or null.
    private BigInteger[] wanted;
    private BigInteger length;
    // The 32 bits of the newest word, the highest one first.
    private String word;

    Model() {
        for (int r = 0; r < 32; r++) {
            registers[r] = BigInteger.ZERO;
        }
    }

    long get(int r) {
        refuseNoRegister(r);
        return registers[r].longValueExact();
    }

    void set(int r, long v) {
        refuseNoRegister(r);
        give(r, number(v));
    }

    private static void refuseNoRegister(int r) {
        if (r < 0 || r > 31) {
            throw new IndexOutOfBoundsException();
        }
    }

    long counter() {
        return counter.longValueExact();
    }

    void jump(long v) {
        counter = number(v).clearBit(0);
        wanted = null;
    }

    long wanted(int what) {
        return wanted == null || what < 0 || what > 4 ? -1 : wanted[what].longValueExact();
    }

    long done() {
        return done;
    }

    int run(int w, int bytes) {
        if (bytes != 2 && bytes != 4) {
            throw new IllegalArgumentException();
        }
        wanted = null;
        length = number(bytes);
        String bits = Integer.toBinaryString(w);
        word = "0".repeat(32 - bits.length()) + bits;
        int d = field(11, 7);
        int f = field(14, 12);
        switch (field(6, 0)) {
            case 55: return gets(d, upper());
            case 23: return gets(d, counter.add(upper()));
            case 111: return links(d, counter.add(signed(part(31, 31), part(19, 12), part(20, 20), part(30, 21), "0")));
            case 103: return f != 0 ? IntegerCore.ILLEGAL : links(d, x().add(immediate()).clearBit(0));
            case 99: return branches(f);
            case 15: return f > 1 ? IntegerCore.ILLEGAL : moves(counter.add(length), IntegerCore.FENCE);
            case 19: case 51: case 27: case 59: return reckons(d, f);
            default: return wants(d, f);
        }
    }

    int finish(boolean gets, long v) {
        if (wanted == null) {
            throw new IllegalStateException();
        }
        int bits = 8 * wanted[1].intValueExact();
        BigInteger back = number(v);
        if (kind == IntegerCore.LOAD) {
            back = wanted[3].signum() == 0 ? wrapped(back, bits) : unsigned(back, bits);
        } else if (kind == IntegerCore.ATOMIC && bits == 32) {
            back = wrapped(back, 32);
        }
        if (gets && kind != IntegerCore.STORE) {
            give(wanted[4].intValueExact(), back);
        }
        wanted = null;
        return moves(counter.add(length), kind);
    }

    private static BigInteger number(long v) {
        return BigInteger.valueOf(v);
    }

    private static BigInteger unsigned(BigInteger v, int bits) {
        return v.mod(BigInteger.TWO.pow(bits));
    }

    private static BigInteger wrapped(BigInteger v, int bits) {
        BigInteger half = BigInteger.TWO.pow(bits - 1);
        return unsigned(v.add(half), bits).subtract(half);
    }

    private String part(int high, int low) {
        return word.substring(31 - high, 32 - low);
    }

    private int field(int high, int low) {
        return Integer.parseInt(part(high, low), 2);
    }

    private static BigInteger signed(String... parts) {
        String row = String.join("", parts);
        return wrapped(new BigInteger(row, 2), row.length());
    }

    private BigInteger immediate() {
        return signed(part(31, 20));
    }

    private BigInteger storeImmediate() {
        return signed(part(31, 25), part(11, 7));
    }

    private BigInteger upper() {
        return signed(part(31, 12), "000000000000");
    }

    private BigInteger x() {
        return registers[field(19, 15)];
    }

    private BigInteger y() {
        return registers[field(24, 20)];
    }

    private void give(int r, BigInteger v) {
        registers[r] = r == 0 ? BigInteger.ZERO : wrapped(v, 64);
    }

    private int moves(BigInteger to, int answer) {
        counter = wrapped(to, 64);
        done++;
        return answer;
    }

    private int gets(int d, BigInteger v) {
        give(d, v);
        return moves(counter.add(length), IntegerCore.DONE);
    }

    private int links(int d, BigInteger to) {
        give(d, counter.add(length));
        return moves(to, IntegerCore.DONE);
    }

    private int branches(int f) {
        int order = x().compareTo(y());
        int unsignedOrder = unsigned(x(), 64).compareTo(unsigned(y(), 64));
        boolean[] taken = {order == 0, order != 0, false, false, order < 0, order >= 0, unsignedOrder < 0, unsignedOrder >= 0};
        if (f == 2 || f == 3) {
            return IntegerCore.ILLEGAL;
        }
        BigInteger by = taken[f] ? signed(part(31, 31), part(7, 7), part(30, 25), part(11, 8), "0") : length;
        return moves(counter.add(by), IntegerCore.DONE);
    }

    private int reckons(int d, int f) {
        int code = field(6, 0);
        int bits = code == 19 || code == 51 ? 64 : 32;
        boolean second = code == 51 || code == 59;
        BigInteger right = second ? y() : f != 1 && f != 5 ? immediate() : number(bits == 64 ? field(25, 20) : field(24, 20));
        String sign = second ? registerSign(f, bits) : bits == 64 ? longImmediateSign(f) : intImmediateSign(f);
        if (sign == null) {
            return IntegerCore.ILLEGAL;
        }
        return gets(d, wrapped(result(sign, wrapped(x(), bits), wrapped(right, bits), bits), bits));
    }

    private String longImmediateSign(int f) {
        int above = field(31, 26);
        if (f == 1) {
            return above == 0 ? "<<" : null;
        }
        if (f == 5) {
            return above == 0 ? ">>>" : above == 16 ? ">>" : null;
        }
        return PLAIN[f];
    }

    private String intImmediateSign(int f) {
        int g = field(31, 25);
        if (f == 0) {
            return "+";
        }
        if (f == 1) {
            return g == 0 ? "<<" : null;
        }
        return f != 5 ? null : g == 0 ? ">>>" : g == 32 ? ">>" : null;
    }

    private String registerSign(int f, int bits) {
        switch (field(31, 25)) {
            case 0: return (bits == 64 ? PLAIN : INT_PLAIN)[f];
            case 1: return (bits == 64 ? PRODUCTS : INT_PRODUCTS)[f];
            case 32: return TURNED[f];
            default: return null;
        }
    }

    private static BigInteger result(String sign, BigInteger x, BigInteger y, int bits) {
        int s = y.mod(number(bits)).intValueExact();
        BigInteger freeX = unsigned(x, bits);
        BigInteger freeY = unsigned(y, bits);
        switch (sign) {
            case "+": return x.add(y);
            case "-": return x.subtract(y);
            case "<<": return x.shiftLeft(s);
            case ">>": return x.shiftRight(s);
            case ">>>": return freeX.shiftRight(s);
            case "less": return number(x.compareTo(y) < 0 ? 1 : 0);
            case "less unsigned": return number(freeX.compareTo(freeY) < 0 ? 1 : 0);
            case "^": return x.xor(y);
            case "|": return x.or(y);
            case "&": return x.and(y);
            case "*": return x.multiply(y);
            case "upper": return x.multiply(y).shiftRight(64);
            case "upper half unsigned": return x.multiply(freeY).shiftRight(64);
            case "upper unsigned": return freeX.multiply(freeY).shiftRight(64);
            case "/": return quotient(x, y);
            case "/ unsigned": return quotient(freeX, freeY);
            case "rest": return y.signum() == 0 ? x : x.remainder(y);
            case "rest unsigned": return y.signum() == 0 ? x : freeX.remainder(freeY);
            default: throw new IllegalStateException(sign);
        }
    }

    private static BigInteger quotient(BigInteger x, BigInteger y) {
        return y.signum() == 0 ? number(-1) : x.divide(y);
    }

    private int wants(int d, int f) {
        int code = field(6, 0);
        BigInteger size = BigInteger.TWO.pow(f % 4);
        boolean fourOrEight = f == 2 || f == 3;
        int atomicSort = field(31, 27);
        BigInteger none = BigInteger.ZERO;
        switch (code) {
            case 3: return tells(f < 7, IntegerCore.LOAD, x().add(immediate()), size, none, f > 3 ? 1 : 0, d);
            case 35: return tells(f < 4, IntegerCore.STORE, x().add(storeImmediate()), size, y(), 0, 0);
            case 47:
                boolean told = ATOMIC_SORTS.contains(" " + atomicSort + " ") && (atomicSort != 2 || field(24, 20) == 0);
                return tells(fourOrEight && told, IntegerCore.ATOMIC, x(), size, y(), atomicSort, d);
            case 7: return tells(fourOrEight, IntegerCore.FLOAT, x().add(immediate()), size, none, 7, d);
            case 39: return tells(fourOrEight, IntegerCore.FLOAT, x().add(storeImmediate()), size, none, 39, 0);
            case 67: case 71: case 75: case 79: case 83: return tells(true, IntegerCore.FLOAT, none, none, x(), code, d);
            case 115:
                BigInteger operand = f < 4 ? x() : number(field(19, 15));
                return tells(f != 4, IntegerCore.CONTROL, number(field(31, 20)), none, operand, f, d);
            default: return IntegerCore.ILLEGAL;
        }
    }

    private int tells(boolean legal, int what, BigInteger address, BigInteger size, BigInteger operand, int sort, int d) {
        if (!legal) {
            return IntegerCore.ILLEGAL;
        }
        kind = what;
        wanted = new BigInteger[] {wrapped(address, 64), size, operand, number(sort), number(d)};
        return kind;
    }
}
