/** Promise 9: bytes. */
public final class P09BytesTest {
    private static final Due DUE = new Due();

    public static void main(String[] args) {
        BitBus bus = new BitBus(2);
        bus.send(0, 1, false, 0, -1);
        bus.send(0, 2, true, 1, 0x1280);
        bus.send(0, 3, false, 7, 0xfedcba9876543210L);
        bus.send(0, 4, true, 8, Long.MIN_VALUE);
        bus.run(900);
        DUE.equal("no bytes", bus.bytes(1, 0), 0);
        DUE.equal("one byte", bus.bytes(1, 1), 0x80);
        DUE.equal("seven bytes", bus.bytes(1, 2), 0xdcba9876543210L);
        DUE.equal("eight bytes", bus.bytes(1, 3), Long.MIN_VALUE);
        DUE.badArgument("node -1", () -> bus.bytes(-1, 0));
        DUE.badArgument("node 2", () -> bus.bytes(2, 0));
        DUE.badArgument("no node and no frame", () -> bus.bytes(2, 9));
        DUE.badIndex("i -1", () -> bus.bytes(1, -1));
        DUE.badIndex("i 4", () -> bus.bytes(1, 4));
        DUE.badIndex("empty inbox", () -> bus.bytes(0, 0));
        bus.take(1);
        DUE.equal("after one is taken", bus.bytes(1, 0), 0x80);
        bus.send(0, 5, false, 0, -1);
        bus.run(100);
        DUE.equal("a place used again has no old bytes", bus.bytes(1, 3), 0);
        DUE.end();
    }
}
