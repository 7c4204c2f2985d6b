/** Promise 5: run. */
public final class P05RunTest {
    private static final Due DUE = new Due();

    public static void main(String[] args) {
        DUE.hold("So many bit times go by", P05RunTest::soMany);
        DUE.hold("0 bit times: nothing goes by", P05RunTest::none);
        DUE.hold("1000 bit times", P05RunTest::thousand);
        DUE.hold("how often a frame was SENT in them", P05RunTest::countsSent);
        DUE.hold("how often, by each node that sent it", P05RunTest::countsEachSender);
        DUE.hold("bit times are the same in one call or in many", P05RunTest::isTheSameInParts);
        DUE.hold("IllegalArgumentException: bits is not 0 .. 1000", P05RunTest::refuses);
        DUE.end();
    }

    /** The bit times are counted by one that is seen wrongly on a bus at rest. */
    private static void goBy(int bits) {
        BitBus bus = new BitBus(2);
        bus.wrong(0, bits);
        bus.wrong(1, bits - 1);
        bus.run(bits);
        DUE.equal("not more than " + bits, bus.look(0, 0), Wire.IDLE);
        DUE.equal("not less than " + bits, bus.look(1, 0), Wire.READING);
    }

    private static void soMany() {
        for (int bits : new int[] {1, 2, 63, 64, 65, 999}) {
            goBy(bits);
        }
    }

    private static void none() {
        BitBus bus = new BitBus(2);
        bus.send(0, 77, false, 0, 0);
        bus.wrong(1, 0);
        String before = Wire.state(bus, 2);
        DUE.equal("run(0)", bus.run(0), 0);
        DUE.equal("all is as it was", Wire.state(bus, 2), before);
        bus.run(1);
        DUE.equal("what is wrong next is so still", bus.look(1, 0), Wire.IDLE);
    }

    private static void thousand() {
        goBy(1000);
        BitBus bus = new BitBus(2);
        for (int i = 0; i < 4; i++) {
            bus.send(0, 7 + i, false, 0, 0);
        }
        DUE.equal("all four in it", bus.run(1000), 4);
    }

    private static void countsSent() {
        BitBus bus = new BitBus(2);
        DUE.equal("nothing to send", bus.run(100), 0);
        bus.send(0, 77, false, 2, 0x1234);
        bus.send(1, 78, true, 0, 0);
        int first = Wire.frame(77, false, 2, 0x1234).length();
        int second = Wire.frame(78, true, 0, 0).length();
        // 78 as a long identifier begins with eleven 0 and goes first.
        DUE.equal("up to the sixth bit of the end", bus.run(second - 1), 0);
        DUE.equal("the seventh", bus.run(1), 1);
        DUE.equal("pause and next frame but one bit", bus.run(3 + first - 1), 0);
        DUE.equal("its last bit and more", bus.run(500), 1);
        bus.send(0, 1, false, 0, 0);
        bus.send(0, 2, false, 0, 0);
        bus.send(1, 3, false, 0, 0);
        DUE.equal("three in one", bus.run(1000), 3);
        DUE.equal("none of them again", bus.run(1000), 0);
    }

    private static void countsEachSender() {
        BitBus bus = new BitBus(3);
        bus.send(0, 300, false, 1, 5);
        bus.send(1, 300, false, 1, 5);
        String wire = Wire.frame(300, false, 1, 5);
        bus.run(wire.length() - 1);
        DUE.equal("both have sent it in one bit time", bus.run(1), 2);
        DUE.equal("the third got it once", bus.look(2, 5), 1);
        DUE.equal("no sender got it", bus.look(0, 5) + bus.look(1, 5), 0);
    }

    private static void isTheSameInParts() {
        BitBus whole = new BitBus(3);
        BitBus parts = new BitBus(3);
        for (BitBus bus : new BitBus[] {whole, parts}) {
            bus.send(0, 1000, false, 8, 0x0102030405060708L);
            bus.send(2, 4, false, 3, 0xffffff);
            bus.send(1, 1 << 20, true, 3, 0);
            bus.wrong(1, 61);
            bus.wrong(0, 130);
        }
        int sum = 0;
        for (int i = 0; i < 200; i++) {
            sum += parts.run(3);
        }
        DUE.equal("sent", whole.run(600), sum);
        DUE.equal("state", Wire.state(whole, 3), Wire.state(parts, 3));
    }

    private static void refuses() {
        for (int nodes = 2; nodes <= 4; nodes++) {
            Refused refused = new Refused(DUE, nodes);
            for (int bits : new int[] {-1, 1001, Integer.MIN_VALUE, Integer.MAX_VALUE}) {
                refused.badArgument("run(" + bits + ")", bus -> bus.run(bits));
            }
        }
    }
}
