import java.util.List;

/** The boundary cases of promise 7, wanted, and of what is wanted in promise 6; each method tests one sentence. */
public final class EdgeWantedTest {
    private static final long MIN = Samples.MIN;
    private static final long MAX = Samples.MAX;

    public static void main(String[] args) {
        nothingUnderWayInANewObject();
        nothingUnderWayAfterARun();
        nothingUnderWayAfterAJump();
        nothingUnderWayAfterFinish();
        anotherWhat();
        wantedChangesNothing();
        wantedMinusOneAsANumber();
        nothingElseHasChanged();
        numbersAsTheyAreNow();
        loadsByF();
        storesByF();
        floatsByF();
        addressesWrap();
        operandsAreWhole();
        dOfStoresIsZero();
        dIsTheField();
        controlNumbersFromZeroOn();
        controlTakesTheFieldOrTheRegister();
        Check.end();
    }

    // "-1 when nothing is under way": before anything was run.
    private static void nothingUnderWayInANewObject() {
        checkNothing(new IntegerCore(), "a new object");
        checkNothing(Samples.core(), "sets and a jump");
    }

    // "-1 when nothing is under way": after DONE, FENCE and ILLEGAL.
    private static void nothingUnderWayAfterARun() {
        for (int word : Samples.giving(5, 6, 7)) {
            IntegerCore core = Samples.core();
            core.run(word, 4);
            checkNothing(core, Samples.name(word));
        }
        for (int f = 0; f < 2; f++) {
            IntegerCore core = Samples.core();
            core.run(Words.register(15, 0, f, 0, 0, 0), 4);
            checkNothing(core, "a fence");
        }
        for (int word : Samples.illegal()) {
            IntegerCore core = Samples.core();
            core.run(word, 4);
            checkNothing(core, Samples.name(word));
        }
    }

    // "-1 when nothing is under way": after jump, by which "nothing is under way any more".
    private static void nothingUnderWayAfterAJump() {
        for (int word : Samples.wanting(5, 6, 7)) {
            IntegerCore core = Samples.core();
            core.run(word, 4);
            core.jump(Samples.PLACE);
            checkNothing(core, Samples.name(word) + " and a jump");
        }
    }

    // "-1 when nothing is under way": after "What is under way is finished".
    private static void nothingUnderWayAfterFinish() {
        for (int word : Samples.wanting(5, 6, 7)) {
            for (boolean gets : new boolean[] {false, true}) {
                IntegerCore core = Samples.core();
                core.run(word, 4);
                core.finish(gets, 77);
                checkNothing(core, Samples.name(word) + " and finish(" + gets + ", ..)");
            }
        }
    }

    private static void checkNothing(IntegerCore core, String when) {
        for (int what : new int[] {0, 1, 2, 3, 4, 5, -1, Integer.MIN_VALUE, Integer.MAX_VALUE}) {
            Check.equal("wanted(" + what + ") after " + when, core.wanted(what), -1);
        }
    }

    // "or for another what": too small, too large, and such as are 0 .. 4 in their lowest bits.
    private static void anotherWhat() {
        int[] others = {
            -1, -2, -3, -4, -5, -8, 5, 6, 7, 8, 9, 10, 16, 32, 256, 65536, Integer.MIN_VALUE, Integer.MIN_VALUE + 4,
            Integer.MAX_VALUE, Integer.MAX_VALUE - 4,
        };
        for (int word : Samples.wanting(5, 6, 7)) {
            IntegerCore core = Samples.core();
            core.run(word, 4);
            for (int what : others) {
                Check.equal("wanted(" + what + ") with " + Samples.name(word), core.wanted(what), -1);
            }
            Check.holds("wanted(4) is still told", core.wanted(4) >= 0);
        }
    }

    // "Number what (0 .. 4) of what is wanted": asked again, it is the same, and can still be finished.
    private static void wantedChangesNothing() {
        for (int word : Samples.wanting(5, 6, 7)) {
            IntegerCore core = Samples.core();
            core.run(word, 4);
            State before = new State(core);
            for (int what = -1; what < 6; what++) {
                core.wanted(what);
                core.wanted(what);
            }
            Check.holds("wanted changes nothing of " + Samples.name(word), before.same(new State(core)));
            Check.equal("finish after wanted", core.finish(true, 1), Samples.kind(word));
        }
    }

    // "-1 when nothing is under way": but a number of what is under way may be -1 too.
    private static void wantedMinusOneAsANumber() {
        IntegerCore core = new IntegerCore();
        core.set(7, -1);
        core.run(Words.formS(35, 0, 0, 7, -1), 4);
        Check.equal("the address -1", core.wanted(0), -1);
        Check.equal("the operand -1", core.wanted(2), -1);
        Check.equal("the size beside it", core.wanted(1), 1);
        Check.equal("finish of it", core.finish(true, 5), IntegerCore.STORE);
    }

    // "and nothing else has changed"
    private static void nothingElseHasChanged() {
        for (int word : Samples.wanting(5, 6, 7)) {
            IntegerCore core = Samples.core();
            core.run(Words.formI(19, 0, 0, 0, 0), 4);
            Check.equal(Samples.name(word), core.run(word, 4), Samples.kind(word));
            for (int r = 0; r < 32; r++) {
                Check.equal("get(" + r + ") with " + Samples.name(word), core.get(r), Samples.held(r));
            }
            Check.equal("counter() with " + Samples.name(word), core.counter(), Samples.PLACE + 4);
            Check.equal("done() with " + Samples.name(word), core.done(), 1);
        }
    }

    // "with these numbers as they are now": registers that change later change none of them.
    private static void numbersAsTheyAreNow() {
        List<Integer> words = Samples.wanting(6, 6, 7);
        words.addAll(Samples.wanting(7, 6, 6));
        for (int word : words) {
            IntegerCore core = Samples.core();
            core.run(word, 4);
            long[] before = numbers(core);
            for (int r = 0; r < 32; r++) {
                core.set(r, -3 - r);
            }
            long[] after = numbers(core);
            for (int what = 0; what < 5; what++) {
                Check.equal("wanted(" + what + ") of " + Samples.name(word) + " later", after[what], before[what]);
            }
        }
    }

    private static long[] numbers(IntegerCore core) {
        long[] numbers = new long[5];
        for (int what = 0; what < 5; what++) {
            numbers[what] = core.wanted(what);
        }
        return numbers;
    }

    // "3, f 0 .. 6: LOAD: x + I; 2^(f mod 4); 0; 1 if f is above 3, else 0"
    private static void loadsByF() {
        long[] sizes = {1, 2, 4, 8, 1, 2, 4};
        long[] sorts = {0, 0, 0, 0, 1, 1, 1};
        for (int f = 0; f < 7; f++) {
            wants(Words.formI(3, f, 31, 6, 21), IntegerCore.LOAD, Samples.held(6) + 21, sizes[f], 0, sorts[f], 31);
        }
        wants(Words.formI(3, 7, 31, 6, 21), IntegerCore.ILLEGAL, -1, -1, -1, -1, -1);
    }

    // "35, f 0 .. 3: STORE: x + S; 2^f; y; 0"
    private static void storesByF() {
        long[] sizes = {1, 2, 4, 8};
        for (int f = 0; f < 4; f++) {
            wants(Words.formS(35, f, 6, 7, 21), IntegerCore.STORE, Samples.held(6) + 21, sizes[f], Samples.held(7), 0, 0);
        }
        for (int f = 4; f < 8; f++) {
            wants(Words.formS(35, f, 6, 7, 21), IntegerCore.ILLEGAL, -1, -1, -1, -1, -1);
        }
    }

    // "7, f 2 or 3: FLOAT", "39, f 2 or 3: FLOAT"; codes 67 to 83 with every f.
    private static void floatsByF() {
        for (int f = 0; f < 8; f++) {
            boolean legal = f == 2 || f == 3;
            long address = legal ? Samples.held(6) + 21 : -1;
            long size = f == 2 ? 4 : f == 3 ? 8 : -1;
            int kind = legal ? IntegerCore.FLOAT : IntegerCore.ILLEGAL;
            wants(Words.formI(7, f, 31, 6, 21), kind, address, size, legal ? 0 : -1, legal ? 7 : -1, legal ? 31 : -1);
            wants(Words.formS(39, f, 6, 7, 21), kind, address, size, legal ? 0 : -1, legal ? 39 : -1, legal ? 0 : -1);
            for (int code = 67; code <= 83; code += 4) {
                for (int g : new int[] {0, 1, 127}) {
                    wants(Words.register(code, g, f, 31, 6, 7), IntegerCore.FLOAT, 0, 0, Samples.held(6), code, 31);
                }
            }
        }
    }

    private static void wants(int word, int kind, long address, long size, long operand, long sort, long d) {
        IntegerCore core = Samples.core();
        Check.equal(Samples.name(word), core.run(word, 4), kind);
        Check.equal("the address of " + Samples.name(word), core.wanted(0), address);
        Check.equal("the size of " + Samples.name(word), core.wanted(1), size);
        Check.equal("the operand of " + Samples.name(word), core.wanted(2), operand);
        Check.equal("the sort of " + Samples.name(word), core.wanted(3), sort);
        Check.equal("the d of " + Samples.name(word), core.wanted(4), d);
    }

    // "Numbers wrap.": x + I and x + S.
    private static void addressesWrap() {
        addresses(MAX, 1, MIN);
        addresses(MAX, 2047, MIN + 2046);
        addresses(MIN, -1, MAX);
        addresses(MIN, -2048, MAX - 2047);
        addresses(-1, 1, 0);
        addresses(0, -1, -1);
        addresses(0, -2048, -2048);
        addresses(0xffffffffL, 1, 0x100000000L);
        addresses(1, 0, 1);
    }

    private static void addresses(long x, int immediate, long due) {
        int[] words = {
            Words.formI(3, 3, 5, 6, immediate), Words.formS(35, 3, 6, 7, immediate), Words.formI(7, 3, 5, 6, immediate),
            Words.formS(39, 3, 6, 7, immediate),
        };
        for (int word : words) {
            IntegerCore core = new IntegerCore();
            core.set(6, x);
            core.run(word, 4);
            Check.equal("the address of " + Samples.name(word) + ": " + x + " and " + immediate, core.wanted(0), due);
        }
    }

    // "an operand": y or x as a long, however small the size is.
    private static void operandsAreWhole() {
        for (long v : Samples.EDGES) {
            IntegerCore core = new IntegerCore();
            core.set(7, v);
            for (int f = 0; f < 4; f++) {
                core.run(Words.formS(35, f, 6, 7, 0), 4);
                Check.equal("the operand of a store, f " + f, core.wanted(2), v);
            }
            for (int f = 2; f < 4; f++) {
                core.run(Words.register(47, 4, f, 5, 6, 7), 4);
                Check.equal("the operand of an atomic, f " + f, core.wanted(2), v);
                core.run(Words.register(47, 4, f, 5, 7, 6), 4);
                Check.equal("the address of an atomic, f " + f, core.wanted(0), v);
            }
            core.run(Words.register(83, 0, 0, 5, 7, 6), 4);
            Check.equal("the operand of a float", core.wanted(2), v);
            core.run(Words.formI(115, 1, 5, 7, 0), 4);
            Check.equal("the operand of a control", core.wanted(2), v);
        }
    }

    // "d is 0": of STORE and of code 39, whatever stands at w[11:7].
    private static void dOfStoresIsZero() {
        for (int low = 0; low < 32; low++) {
            IntegerCore core = Samples.core();
            core.run(Words.formS(35, 3, 6, 7, low), 4);
            Check.equal("d of a store by " + low, core.wanted(4), 0);
            core.run(Words.formS(39, 3, 6, 7, low), 4);
            Check.equal("d of a float store by " + low, core.wanted(4), 0);
        }
    }

    // "4: d": 0 to 31.
    private static void dIsTheField() {
        for (int d = 0; d < 32; d++) {
            for (int word : Samples.wantingForD(d, 6, 7)) {
                IntegerCore core = Samples.core();
                core.run(word, 4);
                Check.equal("d of " + Samples.name(word), core.wanted(4), d);
            }
        }
    }

    // "CONTROL: w[31:20]", "as a number from 0 on": 0 to 4095.
    private static void controlNumbersFromZeroOn() {
        for (int f : new int[] {0, 1, 2, 3, 5, 6, 7}) {
            for (int number : new int[] {0, 1, 2047, 2048, 4095}) {
                IntegerCore core = Samples.core();
                core.run(number << 20 | 6 << 15 | f << 12 | 5 << 7 | 115, 4);
                Check.equal("the number of a control, f " + f, core.wanted(0), number);
                Check.equal("the size of a control, f " + f, core.wanted(1), 0);
                Check.equal("the sort of a control, f " + f, core.wanted(3), f);
            }
        }
    }

    // "f 1, 2, 3: .. x", "f 5, 6, 7: .. a", "f 0: .. x"; f 4 is not told.
    private static void controlTakesTheFieldOrTheRegister() {
        for (int a = 0; a < 32; a++) {
            for (int f = 0; f < 8; f++) {
                IntegerCore core = Samples.core();
                int kind = f == 4 ? IntegerCore.ILLEGAL : IntegerCore.CONTROL;
                Check.equal("code 115, f " + f, core.run(Words.formI(115, f, 5, a, 0), 4), kind);
                long due = f == 4 ? -1 : f > 4 ? a : Samples.held(a);
                Check.equal("the operand of code 115, f " + f + ", a " + a, core.wanted(2), due);
            }
        }
    }
}
