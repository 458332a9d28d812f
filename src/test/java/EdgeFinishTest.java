/** The boundary cases of promise 8, finish; each method tests one sentence. */
public final class EdgeFinishTest {
    private static final long MIN = Samples.MIN;
    private static final long MAX = Samples.MAX;

    public static void main(String[] args) {
        nothingUnderWayInANewObject();
        nothingUnderWayAfterARun();
        nothingUnderWayAfterAJump();
        nothingUnderWayAfterFinish();
        getsIsFalse();
        answersWhatItWas();
        loadOfOneByte();
        loadOfTwoBytes();
        loadOfFourBytes();
        loadOfEightBytes();
        atomicOfFour();
        atomicOfEight();
        storeGivesNothing();
        allOthersGiveAll();
        onlyDChanges();
        dMayBeA();
        Check.end();
    }

    // "IllegalStateException: nothing is under way."
    private static void nothingUnderWayInANewObject() {
        checkRefused(new IntegerCore(), "a new object");
        checkRefused(Samples.core(), "sets and a jump");
    }

    // "IllegalStateException: nothing is under way.": after DONE, FENCE and ILLEGAL.
    private static void nothingUnderWayAfterARun() {
        int[] words = {Words.formI(19, 0, 5, 6, 1), Words.formJ(5, 64), Words.register(15, 0, 1, 0, 0, 0), 0, -1};
        for (int word : words) {
            IntegerCore core = Samples.core();
            core.run(word, 4);
            checkRefused(core, Samples.name(word));
            core.run(Words.formI(3, 3, 5, 6, 0), 4);
            core.run(word, 4);
            checkRefused(core, "a load and " + Samples.name(word));
        }
    }

    // "IllegalStateException: nothing is under way.": after jump, by which "nothing is under way any more".
    private static void nothingUnderWayAfterAJump() {
        for (int word : Samples.wanting(5, 6, 7)) {
            IntegerCore core = Samples.core();
            core.run(word, 4);
            core.jump(Samples.PLACE);
            checkRefused(core, Samples.name(word) + " and a jump");
        }
    }

    // "What is under way is finished": once.
    private static void nothingUnderWayAfterFinish() {
        for (int word : Samples.wanting(5, 6, 7)) {
            for (boolean gets : new boolean[] {false, true}) {
                IntegerCore core = Samples.core();
                core.run(word, 4);
                core.finish(gets, 77);
                checkRefused(core, Samples.name(word) + " and finish(" + gets + ", ..)");
            }
        }
    }

    private static void checkRefused(IntegerCore core, String when) {
        State before = new State(core);
        for (long v : new long[] {0, -1, MIN, MAX}) {
            Check.fails("finish(true, " + v + ") after " + when, IllegalStateException.class, () -> core.finish(true, v));
            Check.fails("finish(false, " + v + ") after " + when, IllegalStateException.class, () -> core.finish(false, v));
        }
        Check.holds("a refused finish after " + when + " changes nothing", before.same(new State(core)));
    }

    // "if gets is false, d gets nothing": the rest is as ever.
    private static void getsIsFalse() {
        for (int word : Samples.wanting(5, 6, 7)) {
            for (int length = 2; length <= 4; length += 2) {
                IntegerCore core = Samples.core();
                core.run(word, length);
                Check.equal("finish(false, ..) of " + Samples.name(word), core.finish(false, -1), Samples.kind(word));
                for (int r = 0; r < 32; r++) {
                    Check.equal("get(" + r + ") after " + Samples.name(word), core.get(r), Samples.held(r));
                }
                Check.equal("counter() after " + Samples.name(word), core.counter(), Samples.PLACE + length);
                Check.equal("done() after " + Samples.name(word), core.done(), 1);
            }
        }
    }

    // "Answers what it was (LOAD .. CONTROL)."
    private static void answersWhatItWas() {
        IntegerCore core = Samples.core();
        for (int word : Samples.wanting(5, 6, 7)) {
            int kind = core.run(word, 4);
            Check.equal("run of " + Samples.name(word), kind, Samples.kind(word));
            Check.equal("finish of " + Samples.name(word), core.finish(true, MIN), kind);
        }
    }

    // "the lowest n bytes of v, with sign if the sort is 0, else with zeros", n being 1.
    private static void loadOfOneByte() {
        long[][] rows = {
            // v, with sign, with zeros
            {0, 0, 0}, {1, 1, 1}, {0x7f, 0x7f, 0x7f}, {0x80, -0x80, 0x80}, {0x81, -0x7f, 0x81}, {0xff, -1, 0xff},
            {0x100, 0, 0}, {0x17f, 0x7f, 0x7f}, {0x180, -0x80, 0x80}, {-1, -1, 0xff}, {-0x80, -0x80, 0x80},
            {-0x81, 0x7f, 0x7f}, {-0x100, 0, 0}, {MAX, -1, 0xff}, {MIN, 0, 0}, {MIN + 0x7f, 0x7f, 0x7f},
        };
        checkLoads(0, 4, rows);
    }

    // "the lowest n bytes of v, with sign if the sort is 0, else with zeros", n being 2.
    private static void loadOfTwoBytes() {
        long[][] rows = {
            {0, 0, 0}, {0xff, 0xff, 0xff}, {0x7fff, 0x7fff, 0x7fff}, {0x8000, -0x8000, 0x8000}, {0x8001, -0x7fff, 0x8001},
            {0xffff, -1, 0xffff}, {0x10000, 0, 0}, {0x17fff, 0x7fff, 0x7fff}, {0x18000, -0x8000, 0x8000},
            {-1, -1, 0xffff}, {-0x8000, -0x8000, 0x8000}, {-0x8001, 0x7fff, 0x7fff}, {MAX, -1, 0xffff}, {MIN, 0, 0},
        };
        checkLoads(1, 5, rows);
    }

    // "the lowest n bytes of v, with sign if the sort is 0, else with zeros", n being 4.
    private static void loadOfFourBytes() {
        long[][] rows = {
            {0, 0, 0}, {0xffff, 0xffff, 0xffff}, {0x7fffffffL, 0x7fffffffL, 0x7fffffffL},
            {0x80000000L, -0x80000000L, 0x80000000L}, {0x80000001L, -0x7fffffffL, 0x80000001L},
            {0xffffffffL, -1, 0xffffffffL}, {0x100000000L, 0, 0}, {0x180000000L, -0x80000000L, 0x80000000L},
            {-1, -1, 0xffffffffL}, {-0x80000000L, -0x80000000L, 0x80000000L}, {-0x80000001L, 0x7fffffffL, 0x7fffffffL},
            {MAX, -1, 0xffffffffL}, {MIN, 0, 0},
        };
        checkLoads(2, 6, rows);
    }

    // "the lowest n bytes of v, with sign if the sort is 0, else with zeros", n being 8: f 3 alone.
    private static void loadOfEightBytes() {
        for (long v : Samples.EDGES) {
            checkGiven(Words.formI(3, 3, 5, 6, 0), v, v);
        }
        Check.equal("code 3, f 7", Samples.core().run(Words.formI(3, 7, 5, 6, 0), 4), IntegerCore.ILLEGAL);
    }

    private static void checkLoads(int withSign, int withZeros, long[][] rows) {
        for (long[] row : rows) {
            checkGiven(Words.formI(3, withSign, 5, 6, 0), row[0], row[1]);
            checkGiven(Words.formI(3, withZeros, 5, 6, 0), row[0], row[2]);
        }
    }

    // "ATOMIC of 4: INT v"
    private static void atomicOfFour() {
        long[][] rows = {
            {0, 0}, {0x7fffffffL, 0x7fffffffL}, {0x80000000L, -0x80000000L}, {0xffffffffL, -1}, {0x100000000L, 0},
            {0x17fffffffL, 0x7fffffffL}, {-1, -1}, {-0x80000000L, -0x80000000L}, {-0x80000001L, 0x7fffffffL}, {MAX, -1},
            {MIN, 0},
        };
        for (int sort : new int[] {0, 1, 2, 3, 4, 8, 12, 16, 20, 24, 28}) {
            for (long[] row : rows) {
                checkGiven(Words.register(47, sort * 4, 2, 5, 6, 0), row[0], row[1]);
            }
        }
    }

    // "all others v": ATOMIC of 8.
    private static void atomicOfEight() {
        for (int sort : new int[] {0, 1, 2, 3, 4, 8, 12, 16, 20, 24, 28}) {
            for (long v : Samples.EDGES) {
                checkGiven(Words.register(47, sort * 4, 3, 5, 6, 0), v, v);
            }
        }
    }

    // "STORE: nothing": no register changes, whatever stands at w[11:7]; nor by code 39, whose d is 0.
    private static void storeGivesNothing() {
        for (int low = 0; low < 32; low++) {
            for (int f = 0; f < 4; f++) {
                checkNothingGiven(Words.formS(35, f, 6, 7, low));
            }
            checkNothingGiven(Words.formS(39, 2, 6, 7, low));
            checkNothingGiven(Words.formS(39, 3, 6, 7, low));
        }
    }

    private static void checkNothingGiven(int word) {
        IntegerCore core = Samples.core();
        core.run(word, 4);
        Check.equal("finish of " + Samples.name(word), core.finish(true, -1), Samples.kind(word));
        for (int r = 0; r < 32; r++) {
            Check.equal("get(" + r + ") after " + Samples.name(word), core.get(r), Samples.held(r));
        }
        Check.equal("counter() after " + Samples.name(word), core.counter(), Samples.PLACE + 4);
        Check.equal("done() after " + Samples.name(word), core.done(), 1);
    }

    // "all others v": FLOAT, of 4 bytes too, and CONTROL.
    private static void allOthersGiveAll() {
        for (long v : Samples.EDGES) {
            checkGiven(Words.formI(7, 2, 5, 6, 0), v, v);
            checkGiven(Words.formI(7, 3, 5, 6, 0), v, v);
            for (int code = 67; code <= 83; code += 4) {
                checkGiven(Words.register(code, 0, 0, 5, 6, 7), v, v);
            }
            for (int f : new int[] {0, 1, 2, 3, 5, 6, 7}) {
                checkGiven(Words.formI(115, f, 5, 6, 0), v, v);
            }
        }
    }

    private static void checkGiven(int word, long v, long due) {
        IntegerCore core = new IntegerCore();
        core.set(5, 0x5555555555555555L);
        core.run(word, 4);
        core.finish(true, v);
        Check.equal("d after " + Samples.name(word) + " was finished with " + v, core.get(5), due);
    }

    // "d gets": d alone, be it the first register or the last.
    private static void onlyDChanges() {
        for (int d = 0; d < 32; d++) {
            for (int word : Samples.wantingForD(d, 6, 7)) {
                IntegerCore core = Samples.core();
                core.run(word, 2);
                core.finish(true, 77);
                for (int r = 0; r < 32; r++) {
                    long due = r == d && r != 0 ? 77 : Samples.held(r);
                    Check.equal("get(" + r + ") after " + Samples.name(word) + " with d " + d, core.get(r), due);
                }
            }
        }
    }

    // "d gets": over what it was set to since, be it a and b too.
    private static void dMayBeA() {
        for (int word : Samples.wantingForD(6, 6, 6)) {
            IntegerCore core = Samples.core();
            core.run(word, 4);
            core.set(6, -9);
            Check.equal("get(6) before finish", core.get(6), -9);
            core.finish(true, 77);
            Check.equal("get(6) after finish of " + Samples.name(word), core.get(6), 77);
        }
    }
}
