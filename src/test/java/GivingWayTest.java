/** Terms: which of several senders goes on, and what the others do. */
public final class GivingWayTest {
    private static final Due DUE = new Due();

    public static void main(String[] args) {
        lowestGoesFirst();
        shortGoesBeforeLong();
        longOnesGoByAllBits();
        bitTimeOfGivingWay();
        givesWayToAWrongZero();
        doesNotGiveWayElsewhere();
        stuffedOneIsNoContest();
        DUE.end();
    }

    private static void lowestGoesFirst() {
        int[] identifiers = {0x400, 0x3ff, 0x401, 0x000};
        BitBus bus = new BitBus(4);
        String wire = "";
        for (int n = 0; n < 4; n++) {
            bus.send(n, identifiers[n], false, 1, n);
        }
        for (int n : new int[] {3, 1, 0, 2}) {
            wire += Wire.frame(identifiers[n], false, 1, n) + "111";
        }
        DUE.equal("one behind the other, without loss", Wire.next(bus, wire.length()), wire);
        for (int n = 0; n < 4; n++) {
            DUE.equal("three came to " + n, bus.look(n, 5), 3);
            DUE.equal("no errors of " + n, bus.look(n, 6), 0);
        }
        DUE.equal("a loser got the winner's", bus.got(2, 0, 0), 0);
        DUE.equal("then the next", bus.got(2, 1, 0), 0x3ff);
        DUE.equal("then the third", bus.got(2, 2, 0), 0x400);
    }

    private static void shortGoesBeforeLong() {
        BitBus bus = new BitBus(2);
        bus.send(0, 0x2a5 << 18, true, 0, 0);
        bus.send(1, 0x2a5, false, 2, 0x5aa5);
        String wire = Wire.frame(0x2a5, false, 2, 0x5aa5) + "111" + Wire.frame(0x2a5 << 18, true, 0, 0);
        DUE.equal("short first", Wire.next(bus, wire.length()), wire);
        BitBus lower = new BitBus(2);
        lower.send(0, (0x2a5 << 18) - 1, true, 0, 0);
        lower.send(1, 0x2a5, false, 0, 0);
        wire = Wire.frame((0x2a5 << 18) - 1, true, 0, 0) + "111" + Wire.frame(0x2a5, false, 0, 0);
        DUE.equal("but not before lower ones", Wire.next(lower, wire.length()), wire);
    }

    private static void longOnesGoByAllBits() {
        for (int k = 0; k < 29; k++) {
            int base = 0x0aaaaaaa & ~(1 << k);
            BitBus bus = new BitBus(3);
            bus.send(0, base | 1 << k, true, 1, 1);
            bus.send(1, base, true, 1, 2);
            String wire = Wire.frame(base, true, 1, 2) + "111" + Wire.frame(base | 1 << k, true, 1, 1);
            DUE.equal("bit " + k, Wire.next(bus, wire.length()), wire);
            DUE.equal("no errors, bit " + k, bus.look(0, 6) + bus.look(1, 6) + bus.look(2, 6), 0);
        }
    }

    private static void bitTimeOfGivingWay() {
        BitBus bus = new BitBus(2);
        bus.send(0, 0x555, false, 0, 0);
        bus.send(1, 0x554, false, 0, 0);
        bus.run(11);
        DUE.equal("both send", bus.look(0, 0) + bus.look(1, 0), 2 * Wire.SENDING);
        bus.run(1);
        DUE.equal("gives way", bus.look(0, 0), Wire.READING);
        DUE.equal("goes on", bus.look(1, 0), Wire.SENDING);
        DUE.equal("this bit is seen", bus.look(0, 7), 12);
        DUE.equal("frame stays", bus.look(0, 4), 1);
        DUE.equal("no error", bus.look(0, 6) + bus.look(0, 1) + bus.look(0, 2), 0);
    }

    /** Node 0 alone sends, and sees one of its bits wrongly; which one is told by its place without stuffed bits. */
    private static BitBus sendsWithWrong(int identifier, boolean wide, int place) {
        BitBus bus = new BitBus(2);
        bus.send(0, identifier, wide, 1, 0x5a);
        for (int i = 0; i < 200 && bus.look(0, 7) < place; i++) {
            bus.run(1);
        }
        bus.wrong(0, 0);
        bus.run(1);
        return bus;
    }

    private static void givesWayToAWrongZero() {
        // Alternating bits have nothing stuffed.
        for (int place = 1; place <= 11; place++) {
            boolean drivesOne = place % 2 == 1;
            BitBus bus = sendsWithWrong(0x555, false, place);
            DUE.equal("short, place " + place, bus.look(0, 0), drivesOne ? Wire.READING : Wire.FLAG);
            DUE.equal("TEC, place " + place, bus.look(0, 1), drivesOne ? 0 : 8);
            DUE.equal("bits, place " + place, bus.look(0, 7), drivesOne ? place + 1 : 0);
        }
        int identifier = 0x2aa << 18 | 0x15555;
        String bits = Wire.body(identifier, true, 1, 0x5a);
        for (int place = 1; place <= 32; place++) {
            boolean drivesOne = bits.charAt(place) == '1';
            BitBus bus = sendsWithWrong(identifier, true, place);
            DUE.equal("long, place " + place, bus.look(0, 0), drivesOne ? Wire.READING : Wire.FLAG);
            DUE.equal("long, queue", bus.look(0, 4), 1);
        }
    }

    private static void doesNotGiveWayElsewhere() {
        String bits = Wire.checked(Wire.body(0x555, false, 1, 0x5a));
        for (int place = 12; place < bits.length(); place++) {
            if (bits.substring(place - 4, place).matches("0000|1111")) {
                continue;
            }
            BitBus bus = sendsWithWrong(0x555, false, place);
            DUE.equal("error at place " + place, bus.look(0, 0), Wire.FLAG);
            DUE.equal("TEC of place " + place, bus.look(0, 1), 8);
        }
        BitBus first = sendsWithWrong(0x555, false, 0);
        DUE.equal("the first bit seen as 1", first.look(0, 0), Wire.FLAG);
        DUE.equal("is a sender's error", first.look(0, 1), 8);
    }

    private static void stuffedOneIsNoContest() {
        BitBus bus = new BitBus(2);
        bus.send(0, 1, false, 0, 0);
        bus.wrong(0, 5);
        bus.run(5);
        DUE.equal("five 0", bus.look(0, 7), 5);
        bus.run(1);
        DUE.equal("the stuffed 1 seen as 0", bus.look(0, 0), Wire.FLAG);
        DUE.equal("is a sender's error", bus.look(0, 1), 8);
    }
}
