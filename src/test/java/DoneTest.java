/** Promise 9: done. */
public final class DoneTest {
    public static void main(String[] args) {
        IntegerCore core = new IntegerCore();
        Check.equal("done() of a new object", core.done(), 0);
        core.run(Words.formI(19, 0, 1, 0, 1), 4);
        Check.equal("done() after an addition", core.done(), 1);
        core.run(Words.formB(0, 0, 0, 8), 4);
        core.run(Words.formB(1, 0, 0, 8), 4);
        Check.equal("done() after branches, taken and not", core.done(), 3);
        core.run(Words.formJ(0, 8), 4);
        core.run(Words.formI(103, 0, 0, 0, 8), 4);
        Check.equal("done() after links", core.done(), 5);
        core.run(Words.register(15, 0, 0, 0, 0, 0), 4);
        Check.equal("done() after a fence", core.done(), 6);
        core.run(0, 4);
        Check.equal("done() after an illegal one", core.done(), 6);
        core.run(Words.formI(3, 3, 1, 0, 0), 4);
        Check.equal("done() with a load under way", core.done(), 6);
        core.finish(true, 1);
        Check.equal("done() after finish", core.done(), 7);
        core.run(Words.formS(35, 3, 0, 0, 0), 4);
        core.finish(false, 1);
        Check.equal("done() after finish without getting", core.done(), 8);
        core.run(Words.formI(3, 3, 1, 0, 0), 4);
        core.jump(0);
        core.set(1, 1);
        Check.equal("done() after a dropped load, jump and set", core.done(), 8);
        Check.fails("finish", IllegalStateException.class, () -> core.finish(true, 1));
        Check.fails("run", IllegalArgumentException.class, () -> core.run(19, 3));
        Check.equal("done() after calls that throw", core.done(), 8);
        Check.end();
    }
}
