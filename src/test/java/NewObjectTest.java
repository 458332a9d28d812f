/** Promise 1: a new object. */
public final class NewObjectTest {
    public static void main(String[] args) {
        everythingIsZero();
        objectsAreApart();
        Check.end();
    }

    private static void everythingIsZero() {
        IntegerCore core = new IntegerCore();
        for (int r = 0; r < 32; r++) {
            Check.equal("get(" + r + ")", core.get(r), 0);
        }
        Check.equal("counter()", core.counter(), 0);
        Check.equal("done()", core.done(), 0);
        for (int what = 0; what < 5; what++) {
            Check.equal("wanted(" + what + ")", core.wanted(what), -1);
        }
        Check.fails("finish", IllegalStateException.class, () -> core.finish(true, 1));
    }

    private static void objectsAreApart() {
        IntegerCore used = new IntegerCore();
        used.set(1, 5);
        used.jump(100);
        used.run(Words.formI(Words.LOAD, 3, 2, 1, 0), 4);
        IntegerCore fresh = new IntegerCore();
        Check.equal("get(1) of another object", fresh.get(1), 0);
        Check.equal("counter() of another object", fresh.counter(), 0);
        Check.equal("wanted(0) of another object", fresh.wanted(0), -1);
    }
}
