/** Promise 6, run: every code, f and g, legal or not; an illegal one changes nothing. */
public final class RunIllegalTest {
    public static void main(String[] args) {
        for (int code = 0; code < 128; code++) {
            for (int f = 0; f < 8; f++) {
                for (int g = 0; g < 128; g++) {
                    check(code, g, f, 0);
                    check(code, g, f, 1);
                }
            }
        }
        zeroAndOnesAreIllegal();
        Check.end();
    }

    private static void check(int code, int g, int f, int b) {
        IntegerCore core = new IntegerCore();
        core.set(1, 11);
        core.set(2, 22);
        core.jump(100);
        State before = new State(core);
        int due = kind(code, g, f, b);
        String what = "code " + code + ", g " + g + ", f " + f + ", b " + b;
        Check.equal(what, core.run(Words.register(code, g, f, 2, 1, b), 4), due);
        if (due == IntegerCore.ILLEGAL) {
            Check.holds(what + " changes nothing", before.same(new State(core)));
            Check.fails(what + " wants nothing", IllegalStateException.class, () -> core.finish(true, 1));
        }
    }

    /** The document's lists of what there is, said once more as strings of f. */
    private static int kind(int code, int g, int f, int b) {
        switch (code) {
            case 55: case 23: case 111: return IntegerCore.DONE;
            case 103: return among("0", f, IntegerCore.DONE);
            case 99: return among("014567", f, IntegerCore.DONE);
            case 19: return among(g / 2 == 0 ? "01234567" : g / 2 == 16 ? "0234567" : "023467", f, IntegerCore.DONE);
            case 51: return among(g == 0 || g == 1 ? "01234567" : g == 32 ? "05" : "", f, IntegerCore.DONE);
            case 27: return among(g == 0 ? "015" : g == 32 ? "05" : "0", f, IntegerCore.DONE);
            case 59: return among(g == 0 ? "015" : g == 32 ? "05" : g == 1 ? "04567" : "", f, IntegerCore.DONE);
            case 15: return among("01", f, IntegerCore.FENCE);
            case 3: return among("0123456", f, IntegerCore.LOAD);
            case 35: return among("0123", f, IntegerCore.STORE);
            case 47: return among(isAtomic(g / 4, b) ? "23" : "", f, IntegerCore.ATOMIC);
            case 7: case 39: return among("23", f, IntegerCore.FLOAT);
            case 67: case 71: case 75: case 79: case 83: return IntegerCore.FLOAT;
            case 115: return among("0123567", f, IntegerCore.CONTROL);
            default: return IntegerCore.ILLEGAL;
        }
    }

    private static boolean isAtomic(int sort, int b) {
        return sort == 2 ? b == 0 : " 0 1 3 4 8 12 16 20 24 28 ".contains(" " + sort + " ");
    }

    private static int among(String list, int f, int kind) {
        return list.contains(String.valueOf(f)) ? kind : IntegerCore.ILLEGAL;
    }

    private static void zeroAndOnesAreIllegal() {
        IntegerCore core = new IntegerCore();
        for (int word : new int[] {0, -1, Integer.MIN_VALUE, Integer.MAX_VALUE}) {
            Check.equal("run(" + word + ", 2)", core.run(word, 2), IntegerCore.ILLEGAL);
            Check.equal("run(" + word + ", 4)", core.run(word, 4), IntegerCore.ILLEGAL);
        }
        Check.equal("counter()", core.counter(), 0);
        Check.equal("done()", core.done(), 0);
    }
}
