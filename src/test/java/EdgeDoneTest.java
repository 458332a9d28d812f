/** The boundary cases of promise 9, done, and of an object's 512 calls; each method tests one sentence. */
public final class EdgeDoneTest {
    private static final int PLAIN = Words.formI(19, 0, 5, 5, 1);
    private static final int LOAD = Words.formI(3, 3, 5, 6, 0);

    public static void main(String[] args) {
        doneOnesCount();
        finishedOnesCount();
        illegalOnesDoNot();
        underWayOnesDoNot();
        droppedOnesDoNot();
        refusedCallsDoNot();
        otherCallsDoNot();
        lastOfTheCalls();
        lastOfTheCallsOfAPair();
        Check.end();
    }

    // "How many instructions were done": DONE and FENCE, branches taken or not, d 0 or not.
    private static void doneOnesCount() {
        for (int word : Samples.giving(5, 6, 7)) {
            checkCounts(word, 1);
        }
        checkCounts(Words.formB(0, 0, 0, 0), 1);
        checkCounts(Words.formB(1, 0, 0, 0), 1);
        checkCounts(Words.formJ(0, 0), 1);
        checkCounts(Words.register(15, 0, 0, 0, 0, 0), 1);
        checkCounts(Words.register(15, 0, 1, 0, 0, 0), 1);
    }

    // "or finished": with or without getting.
    private static void finishedOnesCount() {
        for (int word : Samples.wanting(5, 6, 7)) {
            IntegerCore core = Samples.core();
            core.run(word, 4);
            core.finish(true, 1);
            Check.equal("done() after " + Samples.name(word), core.done(), 1);
            core.run(word, 2);
            core.finish(false, 1);
            Check.equal("done() after " + Samples.name(word) + " again", core.done(), 2);
        }
    }

    // "ILLEGAL, and nothing else has changed"
    private static void illegalOnesDoNot() {
        for (int word : Samples.illegal()) {
            checkCounts(word, 0);
        }
    }

    // "Such an instruction is UNDER WAY then, with these numbers as they are now, and nothing else has changed."
    private static void underWayOnesDoNot() {
        for (int word : Samples.wanting(5, 6, 7)) {
            checkCounts(word, 0);
        }
    }

    private static void checkCounts(int word, int each) {
        IntegerCore core = Samples.core();
        for (int k = 1; k <= 3; k++) {
            core.run(word, 4);
            Check.equal("done() after " + Samples.name(word) + ", " + k + " times", core.done(), (long) k * each);
        }
    }

    // "(what was under way is dropped)", "nothing is under way any more": it was neither done nor finished.
    private static void droppedOnesDoNot() {
        for (int word : Samples.wanting(5, 6, 7)) {
            IntegerCore core = Samples.core();
            core.run(word, 4);
            core.jump(64);
            core.run(word, 4);
            core.run(0, 4);
            Check.equal("done() after two dropped ones", core.done(), 0);
            core.run(word, 4);
            core.run(PLAIN, 4);
            Check.equal("done() after a dropped one and one that is done", core.done(), 1);
        }
    }

    // "A call that throws changes nothing."
    private static void refusedCallsDoNot() {
        IntegerCore core = Samples.core();
        core.run(PLAIN, 4);
        Check.fails("run", IllegalArgumentException.class, () -> core.run(PLAIN, 3));
        Check.fails("finish", IllegalStateException.class, () -> core.finish(true, 1));
        Check.fails("get", IndexOutOfBoundsException.class, () -> core.get(32));
        Check.fails("set", IndexOutOfBoundsException.class, () -> core.set(-1, 1));
        Check.equal("done() after refused calls", core.done(), 1);
    }

    // "How many instructions were done or finished.": instructions, not calls.
    private static void otherCallsDoNot() {
        IntegerCore core = Samples.core();
        core.run(PLAIN, 4);
        core.get(5);
        core.set(5, 1);
        core.counter();
        core.wanted(0);
        core.jump(0);
        Check.equal("done() after other calls", core.done(), 1);
        Check.equal("done() after done()", core.done(), 1);
    }

    // "An object is used for at most 512 calls after it has been made": the 512th is answered as ever.
    private static void lastOfTheCalls() {
        for (int last = 0; last < 3; last++) {
            IntegerCore core = new IntegerCore();
            for (int call = 1; call < 512; call++) {
                Check.equal("call " + call, core.run(PLAIN, call % 2 == 0 ? 2 : 4), IntegerCore.DONE);
            }
            if (last == 0) {
                Check.equal("done() as call 512", core.done(), 511);
            } else if (last == 1) {
                Check.equal("get(5) as call 512", core.get(5), 511);
            } else {
                Check.equal("counter() as call 512", core.counter(), 256 * 4 + 255 * 2);
            }
        }
    }

    // "An object is used for at most 512 calls after it has been made": finish as the 512th.
    private static void lastOfTheCallsOfAPair() {
        IntegerCore core = new IntegerCore();
        for (int call = 1; call < 511; call += 2) {
            core.run(LOAD, 4);
            Check.equal("call " + (call + 1), core.finish(true, call), IntegerCore.LOAD);
        }
        Check.equal("run as call 511", core.run(LOAD, 4), IntegerCore.LOAD);
        Check.equal("finish as call 512", core.finish(true, 1), IntegerCore.LOAD);
    }
}
