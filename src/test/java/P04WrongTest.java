/** Promise 4: wrong. */
public final class P04WrongTest {
    private static final Due DUE = new Due();

    public static void main(String[] args) {
        DUE.hold("0: the next one", P04WrongTest::nextOne);
        DUE.hold("in the bit time that comes after so many others", P04WrongTest::comesInItsBitTime);
        DUE.hold("bit times that go by count, calls do not", P04WrongTest::countsBitTimes);
        DUE.hold("in place of what was told for it before", P04WrongTest::isTakenBack);
        DUE.hold("told twice for one bit time, it is wrong once", P04WrongTest::toldTwice);
        DUE.hold("SEES the opposite", P04WrongTest::seesTheOpposite);
        DUE.hold("A node", P04WrongTest::isOfOneNode);
        DUE.hold("IllegalArgumentException: no node", () -> Refused.noNode(DUE, (bus, node) -> bus.wrong(node, 0)));
        DUE.hold("after is not 0 .. 1000", P04WrongTest::refuses);
        DUE.end();
    }

    /** On a bus at rest a node that sees one 0 is reading from that bit time on. */
    private static void isWrongAfter(int after) {
        BitBus bus = new BitBus(2);
        bus.wrong(1, after);
        bus.run(after);
        DUE.equal("mode before, after " + after, bus.look(1, 0), Wire.IDLE);
        bus.run(1);
        DUE.equal("mode then, after " + after, bus.look(1, 0), Wire.READING);
        DUE.equal("level is not wrong, after " + after, bus.levels(), -1);
        bus.run(5);
        DUE.equal("just once, after " + after, bus.look(1, 7), 6);
        bus.run(1);
        DUE.equal("a 0 and six 1, after " + after, bus.look(1, 6), 1);
    }

    private static void nextOne() {
        BitBus bus = new BitBus(2);
        bus.wrong(1, 0);
        DUE.equal("not before it", bus.look(1, 0), Wire.IDLE);
        bus.run(1);
        DUE.equal("in it", bus.look(1, 0), Wire.READING);
    }

    private static void comesInItsBitTime() {
        for (int after : new int[] {0, 1, 2, 17, 63, 64, 999, 1000}) {
            isWrongAfter(after);
        }
    }

    private static void countsBitTimes() {
        BitBus bus = new BitBus(2);
        bus.wrong(1, 6);
        for (int i = 0; i < 3; i++) {
            bus.run(0);
            bus.run(2);
            bus.wrong(0, 1000);
            DUE.equal("part " + i, bus.look(1, 0), Wire.IDLE);
        }
        bus.run(0);
        DUE.equal("no bit time", bus.look(1, 0), Wire.IDLE);
        bus.run(1);
        DUE.equal("the seventh", bus.look(1, 0), Wire.READING);
    }

    private static void isTakenBack() {
        BitBus later = new BitBus(2);
        later.wrong(0, 2);
        later.wrong(0, 5);
        later.run(5);
        DUE.equal("the former one is gone", later.look(0, 0), Wire.IDLE);
        later.run(1);
        DUE.equal("the later one is there", later.look(0, 0), Wire.READING);
        BitBus sooner = new BitBus(2);
        sooner.wrong(0, 500);
        sooner.run(100);
        sooner.wrong(0, 3);
        sooner.run(3);
        DUE.equal("counted from when it is told", sooner.look(0, 0), Wire.IDLE);
        sooner.run(1);
        DUE.equal("and there", sooner.look(0, 0), Wire.READING);
        sooner.run(390);
        int errors = sooner.look(0, 6);
        sooner.run(100);
        DUE.equal("no second one", sooner.look(0, 6), errors);
    }

    private static void toldTwice() {
        BitBus apart = new BitBus(2);
        apart.wrong(1, 1);
        apart.run(1);
        apart.wrong(1, 0);
        apart.run(1);
        DUE.equal("wrong once, told in two bit times", apart.look(1, 0), Wire.READING);
        BitBus bus = new BitBus(2);
        bus.wrong(1, 1);
        bus.wrong(1, 1);
        bus.run(2);
        DUE.equal("wrong once, told in two calls", bus.look(1, 0), Wire.READING);
        bus.wrong(1, 0);
        bus.run(1);
        DUE.equal("told again behind it", bus.look(1, 7), 2);
        bus.run(5);
        DUE.equal("two 0 and five 1", bus.look(1, 6), 0);
        bus.run(1);
        DUE.equal("and a sixth", bus.look(1, 6), 1);
    }

    private static void seesTheOpposite() {
        BitBus one = new BitBus(2);
        one.send(0, 0x555, false, 0, 0);
        one.wrong(1, 0);
        one.run(1);
        DUE.equal("a 0 is seen as 1", one.look(1, 0), Wire.IDLE);
        DUE.equal("by one node alone", one.look(0, 7), 1);
        DUE.equal("the level is 0", one.levels(), -2);
        BitBus zero = new BitBus(2);
        zero.wrong(1, 0);
        zero.run(1);
        DUE.equal("a 1 is seen as 0", zero.look(1, 0), Wire.READING);
        DUE.equal("the level is 1", zero.levels(), -1);
    }

    private static void isOfOneNode() {
        BitBus bus = new BitBus(3);
        bus.wrong(0, 4);
        bus.wrong(2, 4);
        bus.run(5);
        DUE.equal("node 0", bus.look(0, 0), Wire.READING);
        DUE.equal("node 1", bus.look(1, 0), Wire.IDLE);
        DUE.equal("node 2", bus.look(2, 0), Wire.READING);
    }

    private static void refuses() {
        Refused refused = new Refused(DUE, 3);
        for (int after : new int[] {-1, 1001, Integer.MIN_VALUE, Integer.MAX_VALUE}) {
            for (int n = 0; n < 3; n++) {
                int node = n;
                refused.badArgument("after " + after + " of " + n, bus -> bus.wrong(node, after));
            }
        }
    }
}
