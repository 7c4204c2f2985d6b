/** Promise 4: wrong. */
public final class P04WrongTest {
    private static final Due DUE = new Due();

    public static void main(String[] args) {
        comesInItsBitTime();
        isTakenBack();
        isOfOneNode();
        refuses();
        DUE.end();
    }

    /** On a bus at rest a node that sees one 0 is reading from that bit time on. */
    private static void comesInItsBitTime() {
        for (int after : new int[] {0, 1, 2, 17, 999, 1000}) {
            BitBus bus = new BitBus(2);
            bus.wrong(1, after);
            bus.run(after);
            DUE.equal("mode before, after " + after, bus.look(1, 0), Wire.IDLE);
            bus.run(1);
            DUE.equal("mode then, after " + after, bus.look(1, 0), Wire.READING);
            DUE.equal("level is not wrong, after " + after, bus.levels(), -1);
            bus.run(1);
            DUE.equal("just once, after " + after, bus.look(1, 7), 2);
        }
    }

    private static void isTakenBack() {
        BitBus bus = new BitBus(2);
        bus.wrong(0, 2);
        bus.wrong(0, 5);
        bus.run(5);
        DUE.equal("the former one is gone", bus.look(0, 0), Wire.IDLE);
        bus.run(1);
        DUE.equal("the later one is there", bus.look(0, 0), Wire.READING);
        BitBus sooner = new BitBus(2);
        sooner.wrong(0, 500);
        sooner.run(100);
        sooner.wrong(0, 3);
        sooner.run(4);
        DUE.equal("counted from when it is told", sooner.look(0, 0), Wire.READING);
        sooner.run(390);
        int errors = sooner.look(0, 6);
        sooner.run(100);
        DUE.equal("no second one", sooner.look(0, 6), errors);
    }

    private static void isOfOneNode() {
        BitBus bus = new BitBus(3);
        bus.wrong(0, 4);
        bus.wrong(2, 4);
        bus.run(5);
        DUE.equal("node 0", bus.look(0, 0), Wire.READING);
        DUE.equal("node 1", bus.look(1, 0), Wire.IDLE);
        DUE.equal("node 2", bus.look(2, 0), Wire.READING);
    }

    private static void refuses() {
        BitBus bus = new BitBus(2);
        bus.wrong(1, 3);
        DUE.badArgument("node -1", () -> bus.wrong(-1, 0));
        DUE.badArgument("node 2", () -> bus.wrong(2, 0));
        DUE.badArgument("after -1", () -> bus.wrong(1, -1));
        DUE.badArgument("after 1001", () -> bus.wrong(1, 1001));
        DUE.badArgument("after the least", () -> bus.wrong(1, Integer.MIN_VALUE));
        bus.run(3);
        DUE.equal("not sooner", bus.look(1, 0), Wire.IDLE);
        bus.run(1);
        DUE.equal("what was told stands", bus.look(1, 0), Wire.READING);
    }
}
