/** Promise 2: send. */
public final class P02SendTest {
    private static final Due DUE = new Due();
    private static final int MOST_SHORT = (1 << 11) - 1;
    private static final int MOST_LONG = (1 << 29) - 1;

    public static void main(String[] args) {
        DUE.hold("A frame at the end of a node's queue", P02SendTest::goesInOrder);
        DUE.hold("the bytes are the lowest ones of data, the first one the highest", P02SendTest::sendsLowestBytes);
        DUE.hold("How many frames the queue has", P02SendTest::answersQueue);
        DUE.hold("IllegalArgumentException: no node",
                () -> Refused.noNode(DUE, (bus, node) -> bus.send(node, 5, false, 0, 0)));
        DUE.hold("the identifier has not 11 bits", P02SendTest::shortIdentifiers);
        DUE.hold("the identifier has not 29 bits", P02SendTest::longIdentifiers);
        DUE.hold("length is not 0 .. 8", P02SendTest::lengths);
        DUE.hold("IndexOutOfBoundsException: there are four", P02SendTest::thereAreFour);
        DUE.hold("four count as there, while the first is being sent", P02SendTest::roomBehindTheEnd);
        DUE.hold("a wrong argument goes before a full queue", P02SendTest::wrongAndFull);
        DUE.end();
    }

    private static void goesInOrder() {
        BitBus bus = new BitBus(2);
        bus.send(0, 700, false, 0, 0);
        bus.send(0, 3, false, 0, 0);
        bus.send(0, 600, true, 0, 0);
        bus.send(0, 2, false, 0, 0);
        DUE.equal("sent", bus.run(900), 4);
        int[] identifiers = {700, 3, 600, 2};
        for (int i = 0; i < 4; i++) {
            DUE.equal("frame " + i, bus.got(1, i, 0), identifiers[i]);
        }
    }

    private static void sendsLowestBytes() {
        long data = 0x8899aabbccddeeffL;
        for (int length = 0; length <= 8; length++) {
            BitBus bus = new BitBus(2);
            bus.send(1, 0x2a5, false, length, data);
            String wire = Wire.frame(0x2a5, false, length, data);
            DUE.equal("bits of length " + length, Wire.next(bus, wire.length()), wire);
            DUE.equal("length " + length, bus.got(0, 0, 2), length);
            DUE.equal("bytes of length " + length, bus.bytes(0, 0), length == 8 ? data : data & (1L << 8 * length) - 1);
        }
    }

    private static void answersQueue() {
        BitBus bus = new BitBus(3);
        for (int i = 1; i <= 4; i++) {
            DUE.equal("frame " + i, bus.send(0, 7, false, 0, 0), i);
            DUE.equal("queue has", bus.look(0, 4), i);
        }
        DUE.equal("another node has its own", bus.send(2, 5, false, 0, 0), 1);
        DUE.equal("all sent", bus.run(1000), 5);
        DUE.equal("counted anew", bus.send(0, 9, false, 0, 0), 1);
    }

    private static void isTaken(int identifier, boolean wide, int length) {
        String what = identifier + (wide ? " long" : " short") + " of length " + length;
        BitBus bus = new BitBus(2);
        DUE.equal(what, bus.send(1, identifier, wide, length, 0x0102030405060708L), 1);
        DUE.equal(what + " is sent", bus.run(200), 1);
        DUE.equal(what + " identifier", bus.got(0, 0, 0), identifier);
        DUE.equal(what + " long", bus.got(0, 0, 1), wide ? 1 : 0);
        DUE.equal(what + " length", bus.got(0, 0, 2), length);
    }

    private static void isRefused(int identifier, boolean wide, int length) {
        String what = identifier + (wide ? " long" : " short") + " of length " + length;
        Refused refused = new Refused(DUE, 3);
        refused.badArgument(what, bus -> bus.send(1, identifier, wide, length, 1));
        refused.badArgument(what + " on a full queue", bus -> bus.send(0, identifier, wide, length, 1));
    }

    private static void shortIdentifiers() {
        isRefused(-1, false, 0);
        isTaken(0, false, 0);
        isTaken(1, false, 0);
        isTaken(MOST_SHORT - 1, false, 0);
        isTaken(MOST_SHORT, false, 0);
        isRefused(MOST_SHORT + 1, false, 0);
        isRefused(MOST_LONG, false, 0);
        isRefused(Integer.MIN_VALUE, false, 0);
        isRefused(Integer.MAX_VALUE, false, 0);
    }

    private static void longIdentifiers() {
        isRefused(-1, true, 0);
        isTaken(0, true, 0);
        isTaken(MOST_SHORT, true, 0);
        isTaken(MOST_SHORT + 1, true, 0);
        isTaken(MOST_LONG - 1, true, 0);
        isTaken(MOST_LONG, true, 0);
        isRefused(MOST_LONG + 1, true, 0);
        isRefused(Integer.MIN_VALUE, true, 0);
        isRefused(Integer.MAX_VALUE, true, 0);
    }

    private static void lengths() {
        for (boolean wide : new boolean[] {false, true}) {
            isRefused(5, wide, -1);
            for (int length = 0; length <= 8; length++) {
                isTaken(5, wide, length);
            }
            isRefused(5, wide, 9);
            isRefused(5, wide, 16);
            isRefused(5, wide, Integer.MIN_VALUE);
            isRefused(5, wide, Integer.MAX_VALUE);
        }
    }

    private static void thereAreFour() {
        BitBus bus = new BitBus(2);
        for (int i = 0; i < 4; i++) {
            DUE.equal("frame " + i, bus.send(0, 100 + i, false, 0, 0), i + 1);
        }
        DUE.badIndex("a fifth", () -> bus.send(0, 50, false, 0, 0));
        DUE.equal("still four", bus.look(0, 4), 4);
        DUE.equal("another node has room", bus.send(1, 900, false, 0, 0), 1);
        DUE.equal("all sent, and no fifth", bus.run(1000), 5);
        for (int i = 0; i < 4; i++) {
            DUE.equal("identifier " + i, bus.got(1, i, 0), 100 + i);
        }
        new Refused(DUE, 2).badIndex("a fifth while much goes on", full -> full.send(0, 1, true, 8, -1));
    }

    private static void roomBehindTheEnd() {
        int bits = Wire.frame(100, false, 0, 0).length();
        BitBus bus = new BitBus(2);
        for (int i = 0; i < 4; i++) {
            bus.send(0, 100, false, 0, 0);
        }
        bus.run(1);
        DUE.badIndex("behind its first bit", () -> bus.send(0, 100, false, 0, 0));
        bus.run(bits - 2);
        DUE.badIndex("before its last bit", () -> bus.send(0, 100, false, 0, 0));
        bus.run(1);
        DUE.equal("behind its last bit", bus.send(0, 100, false, 0, 0), 4);
        DUE.badIndex("full again", () -> bus.send(0, 100, false, 0, 0));
    }

    /** The document does not say which goes first; an argument is looked at before the queue. */
    private static void wrongAndFull() {
        Refused refused = new Refused(DUE, 2);
        refused.badArgument("identifier", bus -> bus.send(0, MOST_SHORT + 1, false, 0, 0));
        refused.badArgument("length", bus -> bus.send(0, 1, false, 9, 0));
    }
}
