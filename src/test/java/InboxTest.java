/** Terms: 'an INBOX of frames that it got, at most 6, the oldest first (what comes when it is full is lost)'. */
public final class InboxTest {
    private static final Due DUE = new Due();

    public static void main(String[] args) {
        DUE.hold("at most 6", InboxTest::atMostSix);
        DUE.hold("the oldest first", InboxTest::oldestFirst);
        DUE.hold("what comes when it is full is lost", InboxTest::isLost);
        DUE.hold("full with the sixth bit of the END, not before or behind it", InboxTest::fullWhenGot);
        DUE.hold("a frame that is lost is GOT: it is SENT, and REC is one less", InboxTest::lostIsGot);
        DUE.hold("what the filter leaves out takes no room", InboxTest::filteredTakesNoRoom);
        DUE.end();
    }

    private static void come(BitBus bus, int from, int count) {
        for (int i = from; i < from + count; i++) {
            bus.send(0, 200 + i, i % 2 == 1, i % 9, i);
            DUE.equal("sent " + i, bus.run(160), 1);
        }
    }

    private static void atMostSix() {
        BitBus bus = new BitBus(3);
        int[] inbox = {1, 2, 3, 4, 5, 6, 6, 6};
        for (int i = 0; i < inbox.length; i++) {
            come(bus, i, 1);
            DUE.equal("frames after " + (i + 1), bus.look(1, 5), inbox[i]);
            DUE.equal("of another after " + (i + 1), bus.look(2, 5), inbox[i]);
        }
        DUE.equal("the sixth is there", bus.got(1, 5, 0), 205);
        DUE.badIndex("a seventh is not", () -> bus.got(1, 6, 0));
        DUE.equal("none of one's own", bus.look(0, 5), 0);
    }

    private static void areFrom(BitBus bus, int first, int count) {
        DUE.equal("frames", bus.look(1, 5), count);
        for (int i = 0; i < count; i++) {
            DUE.equal("identifier " + i, bus.got(1, i, 0), 200 + first + i);
            DUE.equal("long " + i, bus.got(1, i, 1), (first + i) % 2);
            DUE.equal("length " + i, bus.got(1, i, 2), (first + i) % 9);
            DUE.equal("bytes " + i, bus.bytes(1, i), (first + i) % 9 == 0 ? 0 : first + i);
        }
    }

    private static void oldestFirst() {
        BitBus bus = new BitBus(2);
        come(bus, 0, 6);
        areFrom(bus, 0, 6);
        for (int i = 1; i <= 12; i++) {
            bus.take(1);
            come(bus, 5 + i, 1);
            areFrom(bus, i, 6);
        }
    }

    private static void isLost() {
        BitBus bus = new BitBus(2);
        come(bus, 0, 6);
        come(bus, 6, 2);
        areFrom(bus, 0, 6);
        DUE.equal("one taken", bus.take(1), 5);
        bus.run(300);
        areFrom(bus, 1, 5);
        bus.send(0, 300, false, 0, 0);
        bus.run(100);
        DUE.equal("room for the next", bus.got(1, 5, 0), 300);
    }

    private static void fullWhenGot() {
        int bits = Wire.frame(300, false, 0, 0).length();
        for (int before = 0; before <= 3; before++) {
            BitBus bus = new BitBus(2);
            come(bus, 0, 6);
            bus.send(0, 300, false, 0, 0);
            bus.run(bits - before);
            bus.take(1);
            bus.run(50);
            boolean room = before >= 2;
            DUE.equal("taken " + before + " bits before the end of it", bus.look(1, 5), room ? 6 : 5);
        }
    }

    private static void lostIsGot() {
        BitBus bus = new BitBus(2);
        come(bus, 0, 6);
        bus.wrong(1, 0);
        bus.run(40);
        DUE.equal("REC", bus.look(1, 2), 1);
        come(bus, 6, 1);
        DUE.equal("REC is one less", bus.look(1, 2), 0);
        DUE.equal("no error more", bus.look(1, 6), 1);
        areFrom(bus, 0, 6);
    }

    private static void filteredTakesNoRoom() {
        BitBus bus = new BitBus(2);
        bus.filter(1, 1, 1);
        come(bus, 0, 12);
        DUE.equal("six of twelve", bus.look(1, 5), 6);
        DUE.equal("the sixth", bus.got(1, 5, 0), 211);
        bus.filter(1, 1, 0);
        bus.take(1);
        come(bus, 12, 1);
        DUE.equal("a place that was free", bus.got(1, 5, 0), 212);
    }
}
