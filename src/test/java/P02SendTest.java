/** Promise 2: send. */
public final class P02SendTest {
    private static final Due DUE = new Due();

    public static void main(String[] args) {
        goesInOrder();
        sendsLowestBytes();
        takesEdges();
        refusesArguments();
        refusesFifth();
        DUE.end();
    }

    private static void goesInOrder() {
        BitBus bus = new BitBus(2);
        DUE.equal("first", bus.send(0, 700, false, 0, 0), 1);
        DUE.equal("second", bus.send(0, 3, false, 0, 0), 2);
        DUE.equal("third", bus.send(0, 600, true, 0, 0), 3);
        DUE.equal("of another node", bus.send(1, 1, false, 0, 0), 1);
        bus.run(600);
        DUE.equal("how many came", bus.look(1, 5), 3);
        DUE.equal("first one first", bus.got(1, 0, 0), 700);
        DUE.equal("second one", bus.got(1, 1, 0), 3);
        DUE.equal("third one", bus.got(1, 2, 0), 600);
        DUE.equal("queue counts anew", bus.send(0, 9, false, 0, 0), 1);
    }

    private static void sendsLowestBytes() {
        long data = 0x8899aabbccddeeffL;
        for (int length = 0; length <= 8; length++) {
            BitBus bus = new BitBus(2);
            bus.send(1, 0x2a5, false, length, data);
            String wire = Wire.frame(0x2a5, false, length, data);
            DUE.equal("bits of length " + length, Wire.next(bus, wire.length()), wire);
            DUE.equal("length " + length, bus.got(0, 0, 2), length);
            DUE.equal("bytes of length " + length, bus.bytes(0, 0), length == 8 ? data : data & (1L << 8 * length) - 1);
        }
    }

    private static void takesEdges() {
        BitBus bus = new BitBus(2);
        bus.send(0, 0, false, 0, 0);
        bus.send(0, 2047, false, 8, 0);
        bus.send(0, 0, true, 8, -1);
        bus.send(0, (1 << 29) - 1, true, 0, 0);
        DUE.equal("all sent", bus.run(900), 4);
        int[] identifiers = {0, 2047, 0, (1 << 29) - 1};
        for (int i = 0; i < 4; i++) {
            DUE.equal("edge identifier " + i, bus.got(1, i, 0), identifiers[i]);
            DUE.equal("edge long " + i, bus.got(1, i, 1), i / 2);
        }
        DUE.equal("no error", bus.look(0, 6) + bus.look(1, 6), 0);
    }

    private static void refusesArguments() {
        BitBus bus = new BitBus(3);
        bus.send(1, 5, false, 1, 7);
        bus.run(20);
        String before = Wire.state(bus, 3);
        DUE.badArgument("node -1", () -> bus.send(-1, 5, false, 0, 0));
        DUE.badArgument("node 3", () -> bus.send(3, 5, false, 0, 0));
        DUE.badArgument("12 bits", () -> bus.send(1, 2048, false, 0, 0));
        DUE.badArgument("30 bits", () -> bus.send(1, 1 << 29, true, 0, 0));
        DUE.badArgument("below 0", () -> bus.send(1, -1, false, 0, 0));
        DUE.badArgument("below 0, long", () -> bus.send(1, -1, true, 0, 0));
        DUE.badArgument("least, long", () -> bus.send(1, Integer.MIN_VALUE, true, 0, 0));
        DUE.badArgument("length -1", () -> bus.send(1, 5, false, -1, 0));
        DUE.badArgument("length 9", () -> bus.send(1, 5, true, 9, 0));
        DUE.equal("refused changes nothing", Wire.state(bus, 3), before);
        DUE.equal("one sent", bus.run(300), 1);
    }

    private static void refusesFifth() {
        BitBus bus = new BitBus(2);
        for (int i = 0; i < 4; i++) {
            DUE.equal("queue of " + i, bus.send(0, 100 + i, false, 0, 0), i + 1);
        }
        DUE.badIndex("a fifth", () -> bus.send(0, 104, false, 0, 0));
        DUE.badArgument("a fifth with a wrong identifier", () -> bus.send(0, 2048, false, 0, 0));
        DUE.badArgument("a fifth with a wrong length", () -> bus.send(0, 1, false, 9, 0));
        DUE.equal("still four", bus.look(0, 4), 4);
        bus.run(20);
        DUE.badIndex("the one being sent counts", () -> bus.send(0, 104, false, 0, 0));
        DUE.equal("four sent", bus.run(600), 4);
        for (int i = 0; i < 4; i++) {
            DUE.equal("frame " + i, bus.got(1, i, 0), 100 + i);
        }
    }
}
