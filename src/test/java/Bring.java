/** Brings a bus of two nodes, on which nothing else goes on, to counts that a test asks for. */
final class Bring {
    static final int IDENTIFIER = 0x555;

    private Bring() {
    }

    /** With both at rest: node 0 sends, and sees its first bit wrongly; the bit time of its error is the last one. */
    static void senderError(BitBus bus) {
        if (bus.look(0, 4) == 0) {
            bus.send(0, IDENTIFIER, false, 0, 0);
        }
        bus.wrong(0, 0);
        bus.run(1);
    }

    /**
     * With both at rest: raises TEC of node 0 by eights up to this one, below 64; both are at rest then, and the frame
     * is still in the queue. Each error of node 0 is one of node 1 too, a reader.
     */
    static void tec(BitBus bus, int tec) {
        for (int from = bus.look(0, 1); from + 8 <= tec; from += 8) {
            senderError(bus);
            rest(bus);
        }
        if (bus.look(0, 1) != tec) {
            throw new IllegalStateException("TEC is " + bus.look(0, 1) + ", not " + tec);
        }
    }

    /** Behind senderError(): two flags of 6, a 1, seven and three; that of a PASSIVE sender is seen one bit later. */
    static void rest(BitBus bus) {
        bus.run(bus.look(0, 3) == 1 ? 23 : 22);
    }

    /** With both at rest: node 1 sees one 0 and then six 1; the bit time of its error is the last one. */
    static void readerError(BitBus bus) {
        bus.wrong(1, 0);
        bus.run(7);
    }

    /** With both at rest: raises REC of node 1 to this one; that of node 0, which sees its flags, with it. */
    static void rec(BitBus bus, int rec) {
        for (int from = bus.look(1, 2); from < rec; from++) {
            readerError(bus);
            bus.run(33);
        }
        if (bus.look(1, 2) != rec) {
            throw new IllegalStateException("REC is " + bus.look(1, 2) + ", not " + rec);
        }
    }

    /** With both at rest and nothing in the queue: node 0 sends a frame, and all is well. */
    static void frame(BitBus bus) {
        bus.send(0, IDENTIFIER, false, 0, 0);
        goThrough(bus);
    }

    /** With both at rest and frames in the queue: the first of them goes by. */
    static void goThrough(BitBus bus) {
        bus.run(frameBits() + 3);
    }

    static int frameBits() {
        return Wire.frame(IDENTIFIER, false, 0, 0).length();
    }
}
