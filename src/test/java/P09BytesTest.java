/** Promise 9: bytes. */
public final class P09BytesTest {
    private static final Due DUE = new Due();

    public static void main(String[] args) {
        DUE.hold("Its bytes, as in send()", P09BytesTest::asInSend);
        DUE.hold("a place of the inbox used again has no old bytes", P09BytesTest::placeUsedAgain);
        DUE.hold("of frame i (from 0, the oldest)", P09BytesTest::fromTheOldest);
        DUE.hold("Exceptions as with got(): no node", () -> Refused.noNode(DUE, (bus, node) -> bus.bytes(node, 0)));
        DUE.hold("Exceptions as with got(): no frame", P09BytesTest::noFrame);
        DUE.hold("it changes nothing", P09BytesTest::changesNothing);
        DUE.end();
    }

    private static void asInSend() {
        for (int length = 0; length <= 8; length++) {
            long most = length == 8 ? -1 : (1L << 8 * length) - 1;
            long highest = most ^ most >>> 1;
            for (long data : new long[] {0, 1, -1, highest, ~highest, 0xfedcba9876543210L, Long.MIN_VALUE}) {
                BitBus bus = new BitBus(2);
                bus.send(0, 0x2a5, length % 2 == 1, length, data);
                bus.run(200);
                DUE.equal(data + " of length " + length, bus.bytes(1, 0), data & most);
            }
        }
    }

    private static void placeUsedAgain() {
        BitBus bus = new BitBus(2);
        for (int i = 0; i < 6; i++) {
            bus.send(0, 5, true, 8, -1);
            bus.run(200);
        }
        for (int i = 0; i < 6; i++) {
            bus.take(1);
        }
        bus.send(0, 5, false, 0, -1);
        bus.send(0, 5, false, 1, 0);
        bus.run(200);
        DUE.equal("none", bus.bytes(1, 0), 0);
        DUE.equal("one of 0", bus.bytes(1, 1), 0);
    }

    private static void fromTheOldest() {
        BitBus bus = new BitBus(2);
        for (int i = 0; i < 6; i++) {
            bus.send(1, 5, false, 1, 10 + i);
            bus.run(100);
        }
        for (int i = 0; i < 6; i++) {
            DUE.equal("bytes " + i, bus.bytes(0, i), 10 + i);
        }
        bus.take(0);
        DUE.equal("the oldest when one is taken", bus.bytes(0, 0), 11);
        DUE.equal("the last when one is taken", bus.bytes(0, 4), 15);
        DUE.badIndex("behind it", () -> bus.bytes(0, 5));
    }

    private static void changesNothing() {
        for (int place = 0; place < 6; place++) {
            int i = place;
            new Refused(DUE, 3).asks("bytes(1, " + i + ")", bus -> bus.bytes(1, i));
        }
    }

    private static void noFrame() {
        Refused refused = new Refused(DUE, 3);
        refused.badIndex("0 of none", bus -> bus.bytes(0, 0));
        refused.badIndex("-1 of none", bus -> bus.bytes(0, -1));
        for (int i : new int[] {-1, 6, 7, Integer.MIN_VALUE, Integer.MAX_VALUE}) {
            refused.badIndex(i + " of six", bus -> bus.bytes(1, i));
        }
        refused.badIndex("2 of two", bus -> bus.bytes(2, 2));
        refused.badArgument("no node and no frame", bus -> bus.bytes(3, 9));
    }
}
