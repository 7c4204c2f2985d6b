/** Promise 3: filter. */
public final class P03FilterTest {
    private static final Due DUE = new Due();

    public static void main(String[] args) {
        takesWhatFits();
        looksAtLongOnesWhole();
        refuses();
        filtersWhenGot();
        DUE.end();
    }

    private static int inboxAfter(int mask, int code, int identifier, boolean wide) {
        BitBus bus = new BitBus(3);
        bus.filter(1, mask, code);
        bus.send(0, identifier, wide, 0, 0);
        bus.run(120);
        DUE.equal("another node has its own filter", bus.look(2, 5), 1);
        return bus.look(1, 5);
    }

    private static void takesWhatFits() {
        DUE.equal("equal", inboxAfter(0x7ff, 0x123, 0x123, false), 1);
        DUE.equal("not equal", inboxAfter(0x7ff, 0x122, 0x123, false), 0);
        DUE.equal("part equal", inboxAfter(0x00f, 0x003, 0x123, false), 1);
        DUE.equal("part not equal", inboxAfter(0x00f, 0x004, 0x123, false), 0);
        DUE.equal("code outside the mask is nothing", inboxAfter(0x00f, -16 | 3, 0x123, false), 1);
        DUE.equal("mask 0", inboxAfter(0, -1, 0x123, false), 1);
        DUE.equal("high bits asked of a short one", inboxAfter(-1, 1 << 31 | 0x123, 0x123, false), 0);
        DUE.equal("high bits not there", inboxAfter(-1, 0x123, 0x123, false), 1);
    }

    private static void looksAtLongOnesWhole() {
        int identifier = 0x123 << 18 | 0x2a5a5;
        DUE.equal("whole", inboxAfter(-1, identifier, identifier, true), 1);
        DUE.equal("lowest bit", inboxAfter(1, 0, identifier, true), 0);
        DUE.equal("highest bit", inboxAfter(1 << 28, 1 << 28, identifier, true), 0);
        DUE.equal("highest eleven are not the lowest", inboxAfter(0x7ff, 0x123, identifier, true), 0);
    }

    private static void refuses() {
        BitBus bus = new BitBus(2);
        DUE.badArgument("node -1", () -> bus.filter(-1, -1, -1));
        DUE.badArgument("node 2", () -> bus.filter(2, -1, -1));
        bus.send(0, 1, false, 0, 0);
        bus.send(1, 2, false, 0, 0);
        bus.run(200);
        DUE.equal("filters as before", bus.look(0, 5) + bus.look(1, 5), 2);
    }

    private static void filtersWhenGot() {
        BitBus bus = new BitBus(2);
        String wire = Wire.frame(9, false, 0, 0);
        bus.send(0, 9, false, 0, 0);
        bus.run(wire.length() - 2);
        bus.filter(1, 1, 0);
        bus.run(1);
        DUE.equal("a filter told before the sixth bit of the end", bus.look(1, 5), 0);
        bus.run(10);
        bus.filter(1, 1, 1);
        bus.send(0, 9, false, 0, 0);
        bus.run(wire.length() - 1);
        bus.filter(1, 1, 0);
        bus.run(20);
        DUE.equal("a filter told behind it", bus.look(1, 5), 1);
    }
}
