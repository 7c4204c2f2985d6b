/** Promise 1: how many nodes there are, and that all is empty. */
public final class P01NewObjectTest {
    private static final Due DUE = new Due();

    public static void main(String[] args) {
        DUE.hold("N is nodes", P01NewObjectTest::asAsked);
        DUE.hold("but 2 if that is less", P01NewObjectTest::atLeastTwo);
        DUE.hold("4 if it is more", P01NewObjectTest::atMostFour);
        DUE.hold("All filters have mask 0", P01NewObjectTest::filtersTakeAll);
        DUE.hold("queues are empty", P01NewObjectTest::queuesAreEmpty);
        DUE.hold("inboxes are empty", P01NewObjectTest::inboxesAreEmpty);
        DUE.hold("IDLE (at first), and counts of 0", P01NewObjectTest::allIsNought);
        DUE.hold("a new object has nothing of another one", P01NewObjectTest::isOnItsOwn);
        DUE.end();
    }

    private static void countsNodes(int asked, int nodes) {
        BitBus bus = new BitBus(asked);
        for (int n = 0; n < nodes; n++) {
            DUE.equal("new BitBus(" + asked + ") look(" + n + ", 0)", bus.look(n, 0), Wire.IDLE);
        }
        DUE.badArgument("new BitBus(" + asked + ") look(" + nodes + ", 0)", () -> bus.look(nodes, 0));
        DUE.badArgument("new BitBus(" + asked + ") look(-1, 0)", () -> bus.look(-1, 0));
        bus.send(0, 5, false, 0, 0);
        bus.run(100);
        for (int n = 1; n < nodes; n++) {
            DUE.equal("new BitBus(" + asked + "), node " + n + " is on the bus,", bus.look(n, 5), 1);
        }
    }

    private static void asAsked() {
        countsNodes(2, 2);
        countsNodes(3, 3);
        countsNodes(4, 4);
    }

    private static void atLeastTwo() {
        countsNodes(1, 2);
        countsNodes(0, 2);
        countsNodes(-1, 2);
        countsNodes(-3, 2);
        countsNodes(-4, 2);
        countsNodes(Integer.MIN_VALUE, 2);
    }

    private static void atMostFour() {
        countsNodes(5, 4);
        countsNodes(6, 4);
        countsNodes(Integer.MAX_VALUE, 4);
    }

    private static void filtersTakeAll() {
        int[] identifiers = {0, 0x7ff, 0, 0x1fffffff};
        BitBus bus = new BitBus(4);
        for (int n = 0; n < 4; n++) {
            bus.send(n, identifiers[n], n >= 2, 0, 0);
        }
        DUE.equal("all sent", bus.run(500), 4);
        for (int n = 0; n < 4; n++) {
            DUE.equal("those of the three others came to " + n, bus.look(n, 5), 3);
        }
    }

    private static void queuesAreEmpty() {
        for (int nodes = 2; nodes <= 4; nodes++) {
            BitBus bus = new BitBus(nodes);
            for (int n = 0; n < nodes; n++) {
                DUE.equal("queue of " + n + " of " + nodes, bus.look(n, 4), 0);
            }
            DUE.equal("nothing is sent", bus.run(1000), 0);
            DUE.equal("nothing is on the bus", bus.levels(), -1);
        }
    }

    private static void inboxesAreEmpty() {
        for (int nodes = 2; nodes <= 4; nodes++) {
            BitBus bus = new BitBus(nodes);
            for (int n = 0; n < nodes; n++) {
                int node = n;
                DUE.equal("inbox of " + n + " of " + nodes, bus.look(n, 5), 0);
                DUE.badIndex("got of " + n, () -> bus.got(node, 0, 0));
                DUE.badIndex("bytes of " + n, () -> bus.bytes(node, 0));
                DUE.badIndex("take of " + n, () -> bus.take(node));
            }
        }
    }

    private static void isOnItsOwn() {
        String fresh = Wire.state(new BitBus(3), 3);
        BitBus before = new BitBus(3);
        BitBus busy = Refused.busy(3);
        BitBus behind = new BitBus(3);
        busy.run(500);
        DUE.yes("something goes on on the busy one", !Wire.state(busy, 3).equals(fresh));
        for (BitBus bus : new BitBus[] {before, behind}) {
            DUE.equal("as a new one", Wire.state(bus, 3), fresh);
            DUE.equal("nothing to send", bus.run(1000), 0);
            DUE.equal("nothing is seen wrongly", Wire.state(bus, 3), fresh);
            bus.send(0, 0x522, false, 0, 0);
            bus.run(100);
            DUE.equal("no filter", bus.look(1, 5) + bus.look(2, 5), 2);
        }
    }

    private static void allIsNought() {
        BitBus bus = new BitBus(4);
        for (int n = 0; n < 4; n++) {
            for (int what = 0; what < 8; what++) {
                DUE.equal("look(" + n + ", " + what + ")", bus.look(n, what), 0);
            }
        }
        DUE.equal("levels", bus.levels(), -1);
    }
}
