/** The example of README.md: what it says there must stay true. */
public final class ReadmeTest {
    public static void main(String[] args) {
        IntegerCore core = new IntegerCore();
        core.set(1, 1000);
        core.jump(64);

        Check.equal("run(0x00508113, 4)", core.run(0x00508113, 4), IntegerCore.DONE);
        Check.equal("get(2)", core.get(2), 1005);

        Check.equal("run(0x0080a183, 4)", core.run(0x0080a183, 4), IntegerCore.LOAD);
        Check.equal("wanted(0)", core.wanted(0), 1008);
        Check.equal("wanted(1)", core.wanted(1), 4);
        Check.equal("finish(true, 0xffffffffL)", core.finish(true, 0xffffffffL), IntegerCore.LOAD);
        Check.equal("get(3)", core.get(3), -1);
        Check.equal("counter()", core.counter(), 72);
        Check.equal("done()", core.done(), 2);
        Check.end();
    }
}
