import java.util.ArrayList;
import java.util.List;

/** "A call that throws changes nothing.": every call that can throw, in every state that it can throw in. */
public final class RefusedCallsTest {
    public static void main(String[] args) {
        refusedInANewObject();
        refusedAfterWhatIsDone();
        refusedWithSomethingUnderWay();
        refusedAgainAndAgain();
        allOtherCallsNeverThrow();
        Check.end();
    }

    private static void refusedInANewObject() {
        IntegerCore core = new IntegerCore();
        State before = new State(core);
        refuseAll(core);
        refuseFinish(core);
        Check.holds("refused calls change nothing in a new object", before.same(new State(core)));
    }

    private static void refusedAfterWhatIsDone() {
        List<Integer> words = new ArrayList<>(Samples.giving(5, 6, 7));
        words.add(Words.register(15, 0, 0, 0, 0, 0));
        words.add(0);
        for (int word : words) {
            IntegerCore core = Samples.core();
            core.run(word, 4);
            State before = new State(core);
            refuseAll(core);
            refuseFinish(core);
            Check.holds("refused calls change nothing after " + Samples.name(word), before.same(new State(core)));
        }
    }

    // What is under way stays so, with its numbers, its d and its length: it ends as if no call had been refused.
    private static void refusedWithSomethingUnderWay() {
        for (int word : Samples.wanting(5, 6, 7)) {
            for (int length = 2; length <= 4; length += 2) {
                IntegerCore core = Samples.core();
                IntegerCore twin = Samples.core();
                core.run(word, length);
                twin.run(word, length);
                refuseAll(core);
                Check.holds("refused calls change nothing with " + Samples.name(word), new State(twin).same(new State(core)));
                Check.equal("finish of " + Samples.name(word), core.finish(true, -2), twin.finish(true, -2));
                Check.holds(Samples.name(word) + " ends as if none was refused", new State(twin).same(new State(core)));
                Check.equal("counter() after it", core.counter(), Samples.PLACE + length);
            }
        }
    }

    private static void refusedAgainAndAgain() {
        IntegerCore core = Samples.core();
        core.run(Words.formI(3, 2, 5, 6, 0), 2);
        State before = new State(core);
        for (int k = 0; k < 50; k++) {
            Check.fails("run", IllegalArgumentException.class, () -> core.run(Words.formI(19, 0, 5, 5, 1), 1));
        }
        Check.holds("fifty refused runs change nothing", before.same(new State(core)));
    }

    private static void refuseAll(IntegerCore core) {
        Check.fails("get(-1)", IndexOutOfBoundsException.class, () -> core.get(-1));
        Check.fails("get(32)", IndexOutOfBoundsException.class, () -> core.get(32));
        Check.fails("set(-1, 9)", IndexOutOfBoundsException.class, () -> core.set(-1, 9));
        Check.fails("set(32, 9)", IndexOutOfBoundsException.class, () -> core.set(32, 9));
        for (int length : new int[] {0, 3, 8, -4}) {
            Check.fails("run of a sum", IllegalArgumentException.class,
                    () -> core.run(Words.formI(19, 0, 5, 5, 1), length));
            Check.fails("run of a fence", IllegalArgumentException.class,
                    () -> core.run(Words.register(15, 0, 0, 0, 0, 0), length));
            Check.fails("run of a store", IllegalArgumentException.class,
                    () -> core.run(Words.formS(35, 0, 8, 9, 3), length));
            Check.fails("run of an illegal one", IllegalArgumentException.class, () -> core.run(0, length));
        }
    }

    private static void refuseFinish(IntegerCore core) {
        Check.fails("finish(true, 9)", IllegalStateException.class, () -> core.finish(true, 9));
        Check.fails("finish(false, 9)", IllegalStateException.class, () -> core.finish(false, 9));
    }

    // The document names what throws; counter, jump, wanted and done do so with no argument in no state.
    private static void allOtherCallsNeverThrow() {
        IntegerCore core = Samples.core();
        for (int round = 0; round < 2; round++) {
            for (int what : new int[] {0, 4, -1, 5, Integer.MIN_VALUE, Integer.MAX_VALUE}) {
                core.wanted(what);
            }
            Check.equal("counter()", core.counter(), Samples.PLACE);
            Check.equal("done()", core.done(), 0);
            core.run(Words.formI(3, 2, 5, 6, 0), 2);
        }
        for (long v : Samples.EDGES) {
            core.jump(v);
            Check.equal("done() after a jump", core.done(), 0);
        }
    }
}
