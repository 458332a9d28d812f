import java.util.ArrayList;
import java.util.List;

/** Words of every kind and numbers at the edges, for tests that go through all of them. */
final class Samples {
    static final long MIN = Long.MIN_VALUE;
    static final long MAX = Long.MAX_VALUE;

    /** The ends of bytes, shorts, ints and longs, with and without sign, and their neighbours. */
    static final long[] EDGES = {
        0, 1, -1, 2, -2, 0x7f, 0x80, 0xff, 0x100, -0x80, -0x81, 0x7fff, 0x8000, 0xffff, 0x10000, -0x8000, -0x8001,
        0x7fffffffL, 0x80000000L, 0xffffffffL, 0x100000000L, -0x80000000L, -0x80000001L, -0x100000000L,
        MAX, MAX - 1, MIN, MIN + 1,
    };

    /** Register r of a core made here holds this: different for each, and 0 for register 0. */
    static long held(int r) {
        return r * 0x0101010101010101L;
    }

    /** Where the counter of a core made here stands. */
    static final long PLACE = 1000;

    private Samples() {
    }

    static IntegerCore core() {
        IntegerCore core = new IntegerCore();
        for (int r = 1; r < 32; r++) {
            core.set(r, held(r));
        }
        core.jump(PLACE);
        return core;
    }

    /** One word for each instruction that gives d something at once. */
    static List<Integer> giving(int d, int a, int b) {
        List<Integer> words = new ArrayList<>();
        words.add(Words.formU(55, d, 0x12345000));
        words.add(Words.formU(23, d, 0x12345000));
        words.add(Words.formJ(d, 64));
        words.add(Words.formI(103, 0, d, a, 64));
        for (int f = 0; f < 8; f++) {
            words.add(Words.formI(19, f, d, a, 21));
            words.add(Words.register(51, 0, f, d, a, b));
            words.add(Words.register(51, 1, f, d, a, b));
        }
        words.add(Words.formI(19, 5, d, a, 1024 + 21));
        words.add(Words.formI(27, 0, d, a, 21));
        words.add(Words.register(27, 0, 1, d, a, b));
        words.add(Words.register(27, 0, 5, d, a, b));
        words.add(Words.register(27, 32, 5, d, a, b));
        for (int f : new int[] {0, 5}) {
            words.add(Words.register(51, 32, f, d, a, b));
            words.add(Words.register(59, 32, f, d, a, b));
        }
        for (int f : new int[] {0, 1, 5}) {
            words.add(Words.register(59, 0, f, d, a, b));
        }
        for (int f : new int[] {0, 4, 5, 6, 7}) {
            words.add(Words.register(59, 1, f, d, a, b));
        }
        return words;
    }

    /** One word for each instruction that is told as what it wants, and whose d gets what comes back. */
    static List<Integer> wantingForD(int d, int a, int b) {
        List<Integer> words = new ArrayList<>();
        for (int f = 0; f < 7; f++) {
            words.add(Words.formI(3, f, d, a, 21));
        }
        for (int f = 2; f < 4; f++) {
            for (int sort : new int[] {0, 1, 3, 4, 8, 12, 16, 20, 24, 28}) {
                words.add(Words.register(47, sort * 4, f, d, a, b));
            }
            words.add(Words.register(47, 2 * 4, f, d, a, 0));
            words.add(Words.formI(7, f, d, a, 21));
        }
        for (int code : new int[] {67, 71, 75, 79, 83}) {
            words.add(Words.register(code, 0, 0, d, a, b));
        }
        for (int f : new int[] {0, 1, 2, 3, 5, 6, 7}) {
            words.add(Words.formI(115, f, d, a, 21));
        }
        return words;
    }

    /** One word for each instruction that is told as what it wants, and whose d is 0. */
    static List<Integer> wantingForNone(int a, int b) {
        List<Integer> words = new ArrayList<>();
        for (int f = 0; f < 4; f++) {
            words.add(Words.formS(35, f, a, b, 21));
        }
        words.add(Words.formS(39, 2, a, b, 21));
        words.add(Words.formS(39, 3, a, b, 21));
        return words;
    }

    static List<Integer> wanting(int d, int a, int b) {
        List<Integer> words = wantingForD(d, a, b);
        words.addAll(wantingForNone(a, b));
        return words;
    }

    /** What run answers for a word of wanting. */
    static int kind(int word) {
        switch (word & 127) {
            case 3: return IntegerCore.LOAD;
            case 35: return IntegerCore.STORE;
            case 47: return IntegerCore.ATOMIC;
            case 115: return IntegerCore.CONTROL;
            default: return IntegerCore.FLOAT;
        }
    }

    /** Words at the edges of what is told: one step beside a legal f, g or code. */
    static int[] illegal() {
        return new int[] {
            0, -1, Words.register(54, 0, 0, 5, 6, 7), Words.register(56, 0, 0, 5, 6, 7),
            Words.formI(103, 1, 5, 6, 0), Words.formB(2, 6, 7, 8), Words.formB(3, 6, 7, 8),
            Words.register(19, 2, 1, 5, 6, 7), Words.register(19, 32, 1, 5, 6, 7), Words.register(19, 34, 5, 5, 6, 7),
            Words.register(51, 2, 0, 5, 6, 7), Words.register(51, 32, 1, 5, 6, 7), Words.register(51, 33, 0, 5, 6, 7),
            Words.formI(27, 2, 5, 6, 0), Words.register(27, 1, 1, 5, 6, 7), Words.register(27, 32, 1, 5, 6, 7),
            Words.register(59, 0, 2, 5, 6, 7), Words.register(59, 1, 1, 5, 6, 7), Words.register(59, 32, 4, 5, 6, 7),
            Words.register(59, 1, 3, 5, 6, 7), Words.register(59, 2, 0, 5, 6, 7), Words.register(59, 33, 0, 5, 6, 7),
            Words.register(15, 0, 2, 5, 6, 7), Words.formI(3, 7, 5, 6, 0), Words.formS(35, 4, 6, 7, 0),
            Words.register(47, 0, 1, 5, 6, 7), Words.register(47, 0, 4, 5, 6, 7), Words.register(47, 8, 2, 5, 6, 7),
            Words.register(47, 20, 2, 5, 6, 7), Words.formI(7, 1, 5, 6, 0), Words.formI(7, 4, 5, 6, 0),
            Words.formS(39, 1, 6, 7, 0), Words.formS(39, 4, 6, 7, 0), Words.formI(115, 4, 5, 6, 0),
        };
    }

    static String name(int word) {
        return "word " + Integer.toHexString(word) + " (code " + (word & 127) + ")";
    }
}
