/** Terms: 'a QUEUE of frames to send, at most 4, the first one first'. */
public final class QueueTest {
    private static final Due DUE = new Due();

    public static void main(String[] args) {
        DUE.hold("at most 4", QueueTest::atMostFour);
        DUE.hold("the first one first", QueueTest::firstOneFirst);
        DUE.hold("what comes while the first is being sent waits behind it", QueueTest::comesWhileItSends);
        DUE.hold("gives way: the frame stays in the queue", QueueTest::staysWhenItGivesWay);
        DUE.hold("a frame that was not SENT is not out of the queue", QueueTest::staysAfterAnError);
        DUE.hold("SENT: the frame is out of the queue", QueueTest::isOut);
        DUE.hold("a queue has room for more when all are out", QueueTest::placesAreUsedAgain);
        DUE.end();
    }

    private static void atMostFour() {
        for (int n = 0; n < 4; n++) {
            BitBus bus = new BitBus(4);
            int node = n;
            for (int i = 1; i <= 4; i++) {
                DUE.equal("frame " + i + " of " + n, bus.send(n, 1, false, 0, 0), i);
            }
            DUE.badIndex("a fifth of " + n, () -> bus.send(node, 1, false, 0, 0));
            DUE.badIndex("a long fifth of " + n, () -> bus.send(node, 1, true, 8, 0));
            DUE.equal("four of " + n, bus.look(n, 4), 4);
            DUE.equal("sent of " + n, bus.run(1000), 4);
        }
    }

    private static void firstOneFirst() {
        int[] identifiers = {0x700, 0x001, 0x650, 0x002};
        BitBus bus = new BitBus(2);
        String wire = "";
        for (int identifier : identifiers) {
            bus.send(0, identifier, false, 0, 0);
            wire += Wire.frame(identifier, false, 0, 0) + "111";
        }
        DUE.equal("in the order they came, not by identifiers", Wire.next(bus, wire.length()), wire);
    }

    private static void comesWhileItSends() {
        String first = Wire.frame(0x655, false, 2, 0x1234);
        String both = first + "111" + Wire.frame(0x001, true, 8, -1);
        for (int bits = 0; bits < first.length() + 3; bits++) {
            BitBus bus = new BitBus(2);
            bus.send(0, 0x655, false, 2, 0x1234);
            String begun = Wire.next(bus, bits);
            int waiting = bits < first.length() ? 2 : 1;
            DUE.equal("queue after " + bits, bus.send(0, 0x001, true, 8, -1), waiting);
            DUE.equal("levels after " + bits, begun + Wire.next(bus, both.length() - bits), both);
        }
    }

    private static void staysWhenItGivesWay() {
        BitBus bus = new BitBus(2);
        bus.send(0, 0x555, false, 0, 0);
        bus.send(0, 0x001, false, 0, 0);
        bus.send(1, 0x554, false, 0, 0);
        bus.run(Wire.frame(0x554, false, 0, 0).length());
        DUE.equal("both are there", bus.look(0, 4), 2);
        DUE.equal("those of one node go in their order", bus.run(300), 2);
        DUE.equal("first", bus.got(1, 0, 0), 0x555);
        DUE.equal("second", bus.got(1, 1, 0), 0x001);
    }

    private static void staysAfterAnError() {
        BitBus bus = new BitBus(2);
        bus.send(0, 0x555, false, 0, 0);
        bus.send(0, 0x001, false, 0, 0);
        bus.wrong(0, Wire.frame(0x555, false, 0, 0).length() - 1);
        bus.run(Wire.frame(0x555, false, 0, 0).length());
        DUE.equal("an error with the last bit", bus.look(0, 6), 1);
        DUE.equal("both are there", bus.look(0, 4), 2);
        DUE.equal("sent", bus.run(300), 2);
        DUE.equal("the first one again", bus.got(1, 1, 0), 0x555);
        DUE.equal("then the second", bus.got(1, 2, 0), 0x001);
    }

    private static void isOut() {
        BitBus bus = new BitBus(2);
        bus.send(0, 0x555, false, 0, 0);
        bus.send(0, 0x556, false, 0, 0);
        bus.run(Wire.frame(0x555, false, 0, 0).length() - 1);
        DUE.equal("before the last bit", bus.look(0, 4), 2);
        bus.run(1);
        DUE.equal("with the last bit", bus.look(0, 4), 1);
        bus.run(3 + Wire.frame(0x556, false, 0, 0).length() - 1);
        DUE.equal("before the last bit of the second", bus.look(0, 4), 1);
        bus.run(1);
        DUE.equal("with the last bit of the second", bus.look(0, 4), 0);
        DUE.equal("none goes again", bus.run(500), 0);
    }

    private static void placesAreUsedAgain() {
        BitBus bus = new BitBus(2);
        for (int round = 0; round < 3; round++) {
            for (int i = 0; i < 4; i++) {
                bus.send(0, 10 * round + i, i % 2 == 0, 8 - 2 * i, -1 - i);
            }
            DUE.badIndex("a fifth", () -> bus.send(0, 9, false, 0, 0));
            DUE.equal("sent", bus.run(1000), 4);
            for (int i = 0; i < 4; i++) {
                DUE.equal("identifier", bus.got(1, 0, 0), 10 * round + i);
                DUE.equal("long", bus.got(1, 0, 1), 1 - i % 2);
                DUE.equal("length", bus.got(1, 0, 2), 8 - 2 * i);
                bus.take(1);
            }
        }
    }
}
