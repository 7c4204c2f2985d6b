/** Promise 6: levels. */
public final class P06LevelsTest {
    private static final Due DUE = new Due();

    public static void main(String[] args) {
        DUE.hold("1 before there were any", P06LevelsTest::beforeAny);
        DUE.hold("The levels of the latest 64 bit times, the latest one lowest", P06LevelsTest::latestLowest);
        DUE.hold("the latest 64: the 65th is out of it", P06LevelsTest::sixtyFour);
        DUE.hold("many bit times in one call", P06LevelsTest::manyAtOnce);
        DUE.hold("the LEVEL is 0 if any drives 0, else 1", P06LevelsTest::anyZero);
        DUE.hold("it changes nothing", () -> new Refused(DUE, 3).asks("levels()", BitBus::levels));
        DUE.end();
    }

    private static void beforeAny() {
        BitBus bus = new BitBus(2);
        DUE.equal("new", bus.levels(), -1);
        bus.run(0);
        DUE.equal("no bit time", bus.levels(), -1);
        bus.send(0, 0, false, 0, 0);
        bus.run(1);
        DUE.equal("one 0, and 1 before it", bus.levels(), -2);
    }

    private static void latestLowest() {
        BitBus bus = new BitBus(2);
        bus.send(0, 0x555, false, 8, 0x0123456789abcdefL);
        String wire = Wire.ones(64) + Wire.frame(0x555, false, 8, 0x0123456789abcdefL) + Wire.ones(20);
        for (int end = 65; end <= wire.length(); end++) {
            bus.run(1);
            long want = Long.parseUnsignedLong(wire.substring(end - 64, end), 2);
            DUE.equal("after " + (end - 64) + " bit times", bus.levels(), want);
            DUE.equal("asked again", bus.levels(), want);
        }
    }

    /** On a bus that is else at rest the flags of one error are twelve 0. */
    private static void sixtyFour() {
        BitBus bus = new BitBus(2);
        bus.wrong(1, 0);
        bus.run(7 + 12);
        DUE.equal("twelve lowest", bus.levels(), -1L << 12);
        bus.run(64 - 12);
        DUE.equal("twelve highest", bus.levels(), -1L >>> 12);
        bus.run(1);
        DUE.equal("eleven highest", bus.levels(), -1L >>> 11);
        bus.run(10);
        DUE.equal("the highest alone", bus.levels(), -1L >>> 1);
        bus.run(1);
        DUE.equal("none is left", bus.levels(), -1);
    }

    private static void manyAtOnce() {
        String wire = Wire.ones(64) + Wire.frame(0x2aa, false, 8, 0x1122334455667788L);
        for (int bits : new int[] {1, 40, 63, 64, 65, 100}) {
            BitBus bus = new BitBus(2);
            bus.send(1, 0x2aa, false, 8, 0x1122334455667788L);
            bus.run(bits);
            long want = Long.parseUnsignedLong(wire.substring(bits, bits + 64), 2);
            DUE.equal(bits + " at once", bus.levels(), want);
        }
    }

    private static void anyZero() {
        for (int n = 0; n < 4; n++) {
            BitBus bus = new BitBus(4);
            bus.send(n, 0x555, false, 0, 0);
            bus.run(2);
            DUE.equal("node " + n + " alone", bus.levels(), -3);
        }
        int[] identifiers = {0x555, 0x545, 0x554, 0x551};
        BitBus all = new BitBus(4);
        for (int n = 0; n < 4; n++) {
            all.send(n, identifiers[n], false, 0, 0);
        }
        all.run(12);
        DUE.equal("four that drive", all.levels() & 0xfff, 0x545);
    }
}
