/** Promise 3: filter. */
public final class P03FilterTest {
    private static final Due DUE = new Due();

    public static void main(String[] args) {
        DUE.hold("it takes a frame if (i and mask) is (code and mask)", P03FilterTest::takesWhatFits);
        DUE.hold("each bit of the mask asks for one of the identifier", P03FilterTest::looksAtEachBit);
        DUE.hold("an identifier of 11 bits, or of 29 if it is LONG", P03FilterTest::looksAtLongOnesWhole);
        DUE.hold("A node's filter", P03FilterTest::isOfOneNode);
        DUE.hold("the frame goes through the filter with the sixth bit of the END", P03FilterTest::filtersWhenGot);
        DUE.hold("IllegalArgumentException: no node",
                () -> Refused.noNode(DUE, (bus, node) -> bus.filter(node, -1, 0x131)));
        DUE.end();
    }

    private static int inboxAfter(int mask, int code, int identifier, boolean wide) {
        BitBus bus = new BitBus(2);
        bus.filter(1, mask, code);
        bus.send(0, identifier, wide, 0, 0);
        DUE.equal("sent, whether it is taken or not", bus.run(120), 1);
        return bus.look(1, 5);
    }

    private static void takesWhatFits() {
        DUE.equal("mask 0", inboxAfter(0, 0, 0x123, false), 1);
        DUE.equal("mask 0 and a code", inboxAfter(0, -1, 0x123, false), 1);
        DUE.equal("all bits equal", inboxAfter(0x7ff, 0x123, 0x123, false), 1);
        DUE.equal("one less", inboxAfter(0x7ff, 0x122, 0x123, false), 0);
        DUE.equal("one more", inboxAfter(0x7ff, 0x124, 0x123, false), 0);
        DUE.equal("part equal", inboxAfter(0x00f, 0x003, 0x123, false), 1);
        DUE.equal("part not equal", inboxAfter(0x00f, 0x004, 0x123, false), 0);
        DUE.equal("a code outside the mask is nothing", inboxAfter(0x00f, -16 | 3, 0x123, false), 1);
    }

    private static void looksAtEachBit() {
        for (int bit = 0; bit < 32; bit++) {
            int one = 1 << bit;
            boolean set = bit < 29 && (0x0a5a5a5a & one) != 0;
            DUE.equal("a 1 asked for at " + bit, inboxAfter(one, -1, 0x0a5a5a5a, true), set ? 1 : 0);
            DUE.equal("a 0 asked for at " + bit, inboxAfter(one, 0, 0x0a5a5a5a, true), set ? 0 : 1);
        }
    }

    private static void looksAtLongOnesWhole() {
        int identifier = 0x123 << 18 | 0x2a5a5;
        DUE.equal("long, whole", inboxAfter(-1, identifier, identifier, true), 1);
        DUE.equal("long, the highest eleven are not the lowest", inboxAfter(0x7ff, 0x123, identifier, true), 0);
        DUE.equal("short, whole", inboxAfter(-1, 0x123, 0x123, false), 1);
        DUE.equal("short, a bit above 11 asked for", inboxAfter(-1, 1 << 11 | 0x123, 0x123, false), 0);
        DUE.equal("short, the highest bit asked for", inboxAfter(-1, 1 << 31 | 0x123, 0x123, false), 0);
        DUE.equal("long of the same number as short", inboxAfter(-1, 0x123, 0x123, true), 1);
    }

    private static void isOfOneNode() {
        BitBus bus = new BitBus(4);
        bus.filter(1, 1, 1);
        bus.filter(2, 1, 0);
        bus.filter(3, 1, 1);
        bus.filter(3, 3, 0);
        for (int i = 0; i < 4; i++) {
            bus.send(0, 100 + i, false, 0, 0);
        }
        bus.run(400);
        DUE.equal("odd ones", bus.got(1, 0, 0) + bus.got(1, 1, 0) + 1000 * bus.look(1, 5), 2204);
        DUE.equal("even ones", bus.got(2, 0, 0) + bus.got(2, 1, 0) + 1000 * bus.look(2, 5), 2202);
        DUE.equal("the later filter of one node", bus.got(3, 0, 0) + 1000 * bus.look(3, 5), 1100);
    }

    private static void filtersWhenGot() {
        BitBus bus = new BitBus(2);
        String wire = Wire.frame(9, false, 0, 0);
        bus.send(0, 9, false, 0, 0);
        bus.run(wire.length() - 2);
        bus.filter(1, 1, 0);
        bus.run(1);
        DUE.equal("a filter told before the sixth bit of the end", bus.look(1, 5), 0);
        bus.run(10);
        bus.filter(1, 1, 1);
        bus.send(0, 9, false, 0, 0);
        bus.run(wire.length() - 1);
        bus.filter(1, 1, 0);
        bus.run(20);
        DUE.equal("a filter told behind it", bus.look(1, 5), 1);
    }
}
