import java.util.function.ToLongFunction;

/** The boundary cases of promise 6, run: lengths, fields, immediates, what is ILLEGAL; each method tests one sentence. */
public final class EdgeInstructionTest {
    private static final int[] NO_LENGTHS = {
        0, 1, 3, 5, 6, 7, 8, 16, 32, -1, -2, -3, -4, -8, 0x102, 0x10002, 0x10004, Integer.MIN_VALUE,
        Integer.MIN_VALUE + 2, Integer.MIN_VALUE + 4, Integer.MAX_VALUE,
    };

    public static void main(String[] args) {
        bothLengthsOfWhatIsDone();
        bothLengthsOfWhatIsFinished();
        noSuchLength();
        everyFieldAtBothEnds();
        bitsOfI();
        bitsOfS();
        bitsOfB();
        bitsOfU();
        bitsOfJ();
        endsOfImmediates();
        linkTakesXAsItWasBefore();
        illegalChangesNothingElse();
        illegalDropsWhatIsUnderWay();
        doneAndFenceDropWhatIsUnderWay();
        whatIsWantedDropsWhatIsUnderWay();
        bitsAboveALongShift();
        bitsAboveAnIntShift();
        atomicOfSortTwoHasNoB();
        atomicSorts();
        fenceDoesNothing();
        Check.end();
    }

    // "is 2 or 4 bytes long (L)", "the counter grows by L then"
    private static void bothLengthsOfWhatIsDone() {
        for (int word : Samples.giving(5, 6, 7)) {
            if ((word & 127) != 111 && (word & 127) != 103) {
                for (int length = 2; length <= 4; length += 2) {
                    IntegerCore core = Samples.core();
                    Check.equal(Samples.name(word), core.run(word, length), IntegerCore.DONE);
                    Check.equal("counter() after " + Samples.name(word), core.counter(), Samples.PLACE + length);
                    Check.equal("wanted(0) after " + Samples.name(word), core.wanted(0), -1);
                }
            }
        }
    }

    // "The counter grows by L." is the length that run was told, not that of a later refused run.
    private static void bothLengthsOfWhatIsFinished() {
        for (int word : Samples.wanting(5, 6, 7)) {
            for (int length = 2; length <= 4; length += 2) {
                IntegerCore core = Samples.core();
                Check.equal(Samples.name(word), core.run(word, length), Samples.kind(word));
                Check.fails("run(.., 8)", IllegalArgumentException.class, () -> core.run(word, 8));
                core.finish(true, 1);
                Check.equal("counter() after " + Samples.name(word), core.counter(), Samples.PLACE + length);
            }
        }
    }

    // "IllegalArgumentException: length is not 2 or 4.": whatever the word is, an illegal one too.
    private static void noSuchLength() {
        int[] words = {
            0, -1, Words.formI(19, 0, 5, 6, 7), Words.formJ(5, 64), Words.formB(0, 0, 0, 64), Words.register(15, 0, 0, 0, 0, 0),
            Words.formI(3, 3, 5, 6, 7), Words.formS(35, 3, 6, 7, 8), Words.formI(115, 1, 5, 6, 7),
        };
        for (int length : NO_LENGTHS) {
            for (int word : words) {
                IntegerCore core = Samples.core();
                State before = new State(core);
                Check.fails("run(" + word + ", " + length + ")", IllegalArgumentException.class, () -> core.run(word, length));
                Check.holds("run of length " + length + " changes nothing", before.same(new State(core)));
                Check.fails("finish after it", IllegalStateException.class, () -> core.finish(true, 1));
            }
        }
    }

    // "d w[11:7]", "a w[19:15]", "b w[24:20]": 0 to 31 each, and all of them at once.
    private static void everyFieldAtBothEnds() {
        for (int r = 0; r < 32; r++) {
            checkSum(r, 6, 7);
            checkSum(5, r, 7);
            checkSum(5, 6, r);
            checkSum(r, r, r);
        }
    }

    private static void checkSum(int d, int a, int b) {
        IntegerCore core = Samples.core();
        core.run(Words.register(51, 0, 0, d, a, b), 4);
        for (int r = 0; r < 32; r++) {
            long due = r == d && r != 0 ? Samples.held(a) + Samples.held(b) : Samples.held(r);
            Check.equal("get(" + r + ") after register " + d + " got " + a + " + " + b, core.get(r), due);
        }
    }

    // "I is w[31:20]", "whose first bit is the sign"
    private static void bitsOfI() {
        for (int bit = 20; bit < 32; bit++) {
            long due = bit == 31 ? -2048 : 1L << bit - 20;
            IntegerCore core = new IntegerCore();
            core.run(19 | 5 << 7 | 1 << bit, 4);
            Check.equal("I of bit " + bit, core.get(5), due);
            core.run(3 | 3 << 12 | 1 << bit, 4);
            Check.equal("I of bit " + bit + " in a load", core.wanted(0), due);
        }
    }

    // "S w[31:25], w[11:7]"
    private static void bitsOfS() {
        for (int bit = 7; bit < 32; bit++) {
            if (bit < 12 || bit > 24) {
                long due = bit == 31 ? -2048 : bit < 12 ? 1L << bit - 7 : 1L << bit - 20;
                IntegerCore core = new IntegerCore();
                core.run(35 | 1 << bit, 4);
                Check.equal("S of bit " + bit, core.wanted(0), due);
                core.run(39 | 3 << 12 | 1 << bit, 4);
                Check.equal("S of bit " + bit + " in a float store", core.wanted(0), due);
            }
        }
    }

    // "B w[31], w[7], w[30:25], w[11:8], 0"
    private static void bitsOfB() {
        for (int bit = 7; bit < 32; bit++) {
            if (bit < 12 || bit > 24) {
                long due = bit == 31 ? -4096 : bit == 7 ? 2048 : bit < 12 ? 1L << bit - 7 : 1L << bit - 20;
                IntegerCore core = new IntegerCore();
                core.run(99 | 1 << bit, 4);
                Check.equal("B of bit " + bit, core.counter(), due);
            }
        }
    }

    // "U w[31:12] and twelve 0"
    private static void bitsOfU() {
        for (int bit = 12; bit < 32; bit++) {
            long due = bit == 31 ? -0x80000000L : 1L << bit;
            IntegerCore core = new IntegerCore();
            core.run(55 | 5 << 7 | 1 << bit, 4);
            Check.equal("U of bit " + bit, core.get(5), due);
            core.run(23 | 5 << 7 | 1 << bit, 4);
            Check.equal("the counter and U of bit " + bit, core.get(5), due + 4);
        }
    }

    // "J w[31], w[19:12], w[20], w[30:21], 0"
    private static void bitsOfJ() {
        for (int bit = 12; bit < 32; bit++) {
            long due = bit == 31 ? -1048576 : bit == 20 ? 2048 : bit < 20 ? 1L << bit : 1L << bit - 20;
            IntegerCore core = new IntegerCore();
            core.run(111 | 1 << bit, 4);
            Check.equal("J of bit " + bit, core.counter(), due);
        }
    }

    // "whose first bit is the sign": all bits of the immediate 1, the sign alone, all bits but the sign.
    private static void endsOfImmediates() {
        checkEnds("I", 3, 0xfff00000, -1, -2048, 2047, core -> core.wanted(0));
        checkEnds("S", 35, 0xfe000f80, -1, -2048, 2047, core -> core.wanted(0));
        checkEnds("B", 99, 0xfe000f80, -2, -4096, 4094, core -> core.counter());
        checkEnds("U", 55 | 5 << 7, 0xfffff000, -4096, -0x80000000L, 0x7ffff000L, core -> core.get(5));
        checkEnds("J", 111, 0xfffff000, -2, -1048576, 1048574, core -> core.counter());
    }

    private static void checkEnds(String name, int code, int bits, long all, long sign, long others,
            ToLongFunction<IntegerCore> answer) {
        int[] words = {code | bits, code | Integer.MIN_VALUE, code | bits & Integer.MAX_VALUE};
        long[] due = {all, sign, others};
        for (int k = 0; k < 3; k++) {
            IntegerCore core = new IntegerCore();
            core.run(words[k], 4);
            Check.equal(name + " of word " + Integer.toHexString(words[k]), answer.applyAsLong(core), due[k]);
        }
    }

    // "(x as it was before)": where d is a.
    private static void linkTakesXAsItWasBefore() {
        for (int r = 1; r < 32; r++) {
            IntegerCore core = new IntegerCore();
            core.jump(64);
            core.set(r, 5000);
            core.run(Words.formI(103, 0, r, r, -1000), 2);
            Check.equal("counter() after code 103 with d and a " + r, core.counter(), 4000);
            Check.equal("get(" + r + ") after code 103", core.get(r), 66);
        }
    }

    // "whatever isn't told here is ILLEGAL", "ILLEGAL, and nothing else has changed"
    private static void illegalChangesNothingElse() {
        for (int word : Samples.illegal()) {
            for (int length = 2; length <= 4; length += 2) {
                IntegerCore core = Samples.core();
                core.run(Words.formI(19, 0, 0, 0, 0), 4);
                State before = new State(core);
                Check.equal(Samples.name(word), core.run(word, length), IntegerCore.ILLEGAL);
                Check.holds(Samples.name(word) + " changes nothing else", before.same(new State(core)));
                Check.fails("finish after it", IllegalStateException.class, () -> core.finish(true, 1));
            }
        }
    }

    // "(what was under way is dropped)": by an illegal one too, which changes nothing else.
    private static void illegalDropsWhatIsUnderWay() {
        for (int underWay : Samples.wanting(5, 6, 7)) {
            IntegerCore core = Samples.core();
            State before = new State(core);
            core.run(underWay, 4);
            Check.equal("an illegal one", core.run(0, 2), IntegerCore.ILLEGAL);
            Check.holds(Samples.name(underWay) + " is dropped by an illegal one", before.same(new State(core)));
            Check.fails("finish after it", IllegalStateException.class, () -> core.finish(true, 1));
        }
    }

    // "(what was under way is dropped)": d never gets anything then, and it does not count as done.
    private static void doneAndFenceDropWhatIsUnderWay() {
        int[] words = {Words.formI(19, 0, 4, 6, 1), Words.register(15, 0, 0, 0, 0, 0)};
        for (int underWay : Samples.wanting(5, 6, 7)) {
            for (int k = 0; k < 2; k++) {
                IntegerCore core = Samples.core();
                core.run(underWay, 2);
                Check.equal("a run that drops", core.run(words[k], 4), k == 0 ? IntegerCore.DONE : IntegerCore.FENCE);
                for (int what = 0; what < 5; what++) {
                    Check.equal("wanted(" + what + ") after it", core.wanted(what), -1);
                }
                Check.fails("finish after it", IllegalStateException.class, () -> core.finish(true, 1));
                Check.equal("get(5) after it", core.get(5), Samples.held(5));
                Check.equal("counter() after it", core.counter(), Samples.PLACE + 4);
                Check.equal("done() after it", core.done(), 1);
            }
        }
    }

    // "(what was under way is dropped)": nothing of it is left in what is wanted next.
    private static void whatIsWantedDropsWhatIsUnderWay() {
        for (int older : Samples.wanting(9, 10, 11)) {
            for (int newer : Samples.wanting(5, 6, 7)) {
                IntegerCore core = Samples.core();
                core.run(newer, 2);
                State alone = new State(core);
                core.run(older, 4);
                Check.equal(Samples.name(newer), core.run(newer, 2), Samples.kind(newer));
                Check.holds(Samples.name(newer) + " after " + Samples.name(older), alone.same(new State(core)));
                Check.equal("finish", core.finish(true, -1), Samples.kind(newer));
                Check.equal("counter() after the newer one", core.counter(), Samples.PLACE + 2);
                Check.equal("done() after the newer one", core.done(), 1);
                Check.equal("d of the older one", core.get(9), Samples.held(9));
            }
        }
    }

    // "1, w[31:26] being 0", "x >>> w[25:20] with w[31:26] being 0, x >> w[25:20] with 16"
    private static void bitsAboveALongShift() {
        for (int above = 0; above < 64; above++) {
            int left = above == 0 ? IntegerCore.DONE : IntegerCore.ILLEGAL;
            int right = above == 0 || above == 16 ? IntegerCore.DONE : IntegerCore.ILLEGAL;
            for (int s : new int[] {0, 1, 31, 32, 63}) {
                int fields = above << 26 | s << 20 | 6 << 15 | 5 << 7 | 19;
                Check.equal("code 19, f 1, above " + above + " by " + s, Samples.core().run(fields | 1 << 12, 4), left);
                Check.equal("code 19, f 5, above " + above + " by " + s, Samples.core().run(fields | 5 << 12, 4), right);
            }
        }
    }

    // "1, g 0", "INT x >>> b with g 0, INT x >> b with g 32": 32 or more is no shift of ints.
    private static void bitsAboveAnIntShift() {
        for (int g = 0; g < 128; g++) {
            int left = g == 0 ? IntegerCore.DONE : IntegerCore.ILLEGAL;
            int right = g == 0 || g == 32 ? IntegerCore.DONE : IntegerCore.ILLEGAL;
            for (int s : new int[] {0, 1, 31}) {
                Check.equal("code 27, f 1, g " + g, Samples.core().run(Words.register(27, g, 1, 5, 6, s), 4), left);
                Check.equal("code 27, f 5, g " + g, Samples.core().run(Words.register(27, g, 5, 5, 6, s), 4), right);
            }
        }
    }

    // "2 (b is 0 then)"
    private static void atomicOfSortTwoHasNoB() {
        for (int b = 0; b < 32; b++) {
            for (int g = 8; g < 12; g++) {
                for (int f = 2; f < 4; f++) {
                    int due = b == 0 ? IntegerCore.ATOMIC : IntegerCore.ILLEGAL;
                    Check.equal("sort 2 with b " + b, Samples.core().run(Words.register(47, g, f, 5, 6, b), 4), due);
                }
            }
        }
    }

    // "w[31:27] one of 0, 1, 2 (b is 0 then), 3, 4, 8, 12, 16, 20, 24, 28": every b with the others.
    private static void atomicSorts() {
        String legal = " 0 1 3 4 8 12 16 20 24 28 ";
        for (int sort = 0; sort < 32; sort++) {
            if (sort != 2) {
                int due = legal.contains(" " + sort + " ") ? IntegerCore.ATOMIC : IntegerCore.ILLEGAL;
                for (int b = 0; b < 32; b++) {
                    IntegerCore core = Samples.core();
                    Check.equal("sort " + sort + " with b " + b, core.run(Words.register(47, sort * 4, 3, 5, 6, b), 4), due);
                    Check.equal("the operand", core.wanted(2), due == IntegerCore.ATOMIC ? Samples.held(b) : -1);
                    Check.equal("the sort", core.wanted(3), due == IntegerCore.ATOMIC ? sort : -1);
                }
            }
        }
    }

    // "15, f 0 or 1: nothing. (FENCE is answered instead of DONE.)": whatever the other fields are.
    private static void fenceDoesNothing() {
        for (int f = 0; f < 8; f++) {
            for (int field : new int[] {0, 1, 31}) {
                IntegerCore core = Samples.core();
                int word = Words.register(15, field * 4 + 3, f, field, field, field);
                Check.equal("code 15, f " + f, core.run(word, 2), f < 2 ? IntegerCore.FENCE : IntegerCore.ILLEGAL);
                for (int r = 0; r < 32; r++) {
                    Check.equal("get(" + r + ") after code 15", core.get(r), Samples.held(r));
                }
                Check.equal("counter() after code 15", core.counter(), Samples.PLACE + (f < 2 ? 2 : 0));
                Check.equal("done() after code 15", core.done(), f < 2 ? 1 : 0);
                Check.equal("wanted(0) after code 15", core.wanted(0), -1);
            }
        }
    }
}
