/** Promise 6: levels. */
public final class P06LevelsTest {
    private static final Due DUE = new Due();

    public static void main(String[] args) {
        BitBus bus = new BitBus(2);
        DUE.equal("before any", bus.levels(), -1);
        bus.send(0, 0x555, false, 8, 0x0123456789abcdefL);
        String wire = Wire.ones(64) + Wire.frame(0x555, false, 8, 0x0123456789abcdefL) + Wire.ones(20);
        for (int end = 65; end <= wire.length(); end++) {
            bus.run(1);
            long want = Long.parseUnsignedLong(wire.substring(end - 64, end), 2);
            DUE.equal("after " + (end - 64) + " bit times", bus.levels(), want);
            DUE.equal("asked again", bus.levels(), want);
        }
        BitBus atOnce = new BitBus(2);
        atOnce.send(1, 0x2aa, false, 0, 0);
        atOnce.run(40);
        String row = Wire.ones(64) + Wire.frame(0x2aa, false, 0, 0).substring(0, 40);
        DUE.equal("many at once", atOnce.levels(), Long.parseUnsignedLong(row.substring(40), 2));
        DUE.end();
    }
}
