/** Promise 5: run. */
public final class P05RunTest {
    private static final Due DUE = new Due();

    public static void main(String[] args) {
        countsSent();
        countsEachSender();
        isTheSameInParts();
        refuses();
        DUE.end();
    }

    private static void countsSent() {
        BitBus bus = new BitBus(2);
        DUE.equal("nothing to send", bus.run(1000), 0);
        bus.send(0, 77, false, 2, 0x1234);
        bus.send(1, 78, true, 0, 0);
        DUE.equal("no bit time", bus.run(0), 0);
        DUE.equal("no bit time has no level", bus.levels(), -1);
        int first = Wire.frame(77, false, 2, 0x1234).length();
        int second = Wire.frame(78, true, 0, 0).length();
        // 78 as a long identifier begins with eleven 0 and goes first.
        DUE.equal("up to the sixth bit of the end", bus.run(second - 1), 0);
        DUE.equal("the seventh", bus.run(1), 1);
        DUE.equal("pause and next frame but one bit", bus.run(3 + first - 1), 0);
        DUE.equal("its last bit", bus.run(1), 1);
        DUE.equal("no more", bus.run(500), 0);
        bus.send(0, 1, false, 0, 0);
        bus.send(0, 2, false, 0, 0);
        bus.send(1, 3, false, 0, 0);
        DUE.equal("three in one", bus.run(1000), 3);
    }

    private static void countsEachSender() {
        BitBus bus = new BitBus(3);
        bus.send(0, 300, false, 1, 5);
        bus.send(1, 300, false, 1, 5);
        String wire = Wire.frame(300, false, 1, 5);
        bus.run(wire.length() - 1);
        DUE.equal("both have sent it in one bit time", bus.run(1), 2);
        DUE.equal("the third got it once", bus.look(2, 5), 1);
        DUE.equal("no sender got it", bus.look(0, 5) + bus.look(1, 5), 0);
    }

    private static void isTheSameInParts() {
        BitBus whole = new BitBus(3);
        BitBus parts = new BitBus(3);
        for (BitBus bus : new BitBus[] {whole, parts}) {
            bus.send(0, 1000, false, 8, 0x0102030405060708L);
            bus.send(2, 4, false, 3, 0xffffff);
            bus.send(1, 1 << 20, true, 3, 0);
            bus.wrong(1, 61);
            bus.wrong(0, 130);
        }
        int sum = 0;
        for (int i = 0; i < 200; i++) {
            sum += parts.run(3);
        }
        DUE.equal("sent", whole.run(600), sum);
        DUE.equal("state", Wire.state(whole, 3), Wire.state(parts, 3));
    }

    private static void refuses() {
        BitBus bus = new BitBus(2);
        bus.send(0, 5, false, 0, 0);
        bus.run(7);
        String before = Wire.state(bus, 2);
        DUE.badArgument("-1", () -> bus.run(-1));
        DUE.badArgument("1001", () -> bus.run(1001));
        DUE.badArgument("the least", () -> bus.run(Integer.MIN_VALUE));
        DUE.badArgument("the most", () -> bus.run(Integer.MAX_VALUE));
        DUE.equal("refused changes nothing", Wire.state(bus, 2), before);
        DUE.equal("1000 is fine", bus.run(1000), 1);
    }
}
