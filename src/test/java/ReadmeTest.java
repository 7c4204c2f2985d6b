/** README.md: the calls of its example, line by line, answer what it tells. */
public final class ReadmeTest {
    private static final Due DUE = new Due();

    public static void main(String[] args) {
        DUE.hold("the example of README.md", ReadmeTest::example);
        DUE.end();
    }

    private static void example() {
        BitBus bus = new BitBus(3);
        bus.filter(2, 0x7ff, 0x123);
        DUE.equal("send of node 0", bus.send(0, 0x123, false, 2, 0xCAFE), 1);
        DUE.equal("send of node 1", bus.send(1, 0x5000000, true, 0, 0), 1);
        bus.wrong(2, 30);
        DUE.equal("run", bus.run(400), 2);
        DUE.equal("levels", bus.levels(), -1);
        DUE.equal("errors", bus.look(2, 6), 1);
        DUE.equal("TEC", bus.look(0, 1), 7);
        DUE.equal("inbox", bus.look(2, 5), 1);
        DUE.equal("identifier", bus.got(2, 0, 0), 0x123);
        DUE.equal("long", bus.got(2, 0, 1), 0);
        DUE.equal("length", bus.got(2, 0, 2), 2);
        DUE.equal("bytes", bus.bytes(2, 0), 0xCAFE);
        DUE.equal("left", bus.take(2), 0);
        DUE.equal("check", bus.check(0b101, 3), 0x1D56);
        DUE.badArgument("there is no node 3", () -> bus.send(3, 0x123, false, 0, 0));
        DUE.badIndex("its inbox is empty now", () -> bus.take(2));
    }
}
