/** Terms: which of several senders goes on, and what the others do. */
public final class GivingWayTest {
    private static final Due DUE = new Due();

    public static void main(String[] args) {
        DUE.hold("frames go by identifiers, the lowest first, without loss", GivingWayTest::lowestGoesFirst);
        DUE.hold("of a short and a LONG one of the same 11 bits the short goes first", GivingWayTest::shortBeforeLong);
        DUE.hold("LONG ones go by all 29 bits", GivingWayTest::longOnesGoByAllBits);
        DUE.hold("it is READING from then on, with this bit", GivingWayTest::bitTimeOfGivingWay);
        DUE.hold("among the identifier's bits", GivingWayTest::amongTheIdentifiersBits);
        DUE.hold("the one behind the first 11 and the next one", GivingWayTest::behindTheFirst11);
        DUE.hold("if that was a 1", GivingWayTest::ifThatWasAOne);
        DUE.hold("no stuffed one", GivingWayTest::noStuffedOne);
        DUE.hold("else ERROR", GivingWayTest::elseError);
        DUE.hold("else ERROR: senders of one identifier and other bytes or lengths", GivingWayTest::sameIdentifier);
        DUE.hold("a sender that gave way is a reader", GivingWayTest::isAReaderThen);
        DUE.end();
    }

    private static void lowestGoesFirst() {
        int[] identifiers = {0x400, 0x3ff, 0x401, 0x000};
        BitBus bus = new BitBus(4);
        String wire = "";
        for (int n = 0; n < 4; n++) {
            bus.send(n, identifiers[n], false, 1, n);
        }
        for (int n : new int[] {3, 1, 0, 2}) {
            wire += Wire.frame(identifiers[n], false, 1, n) + "111";
        }
        DUE.equal("one behind the other", Wire.next(bus, wire.length()), wire);
        for (int n = 0; n < 4; n++) {
            DUE.equal("three came to " + n, bus.look(n, 5), 3);
            DUE.equal("no errors of " + n, bus.look(n, 6), 0);
        }
        DUE.equal("a loser got the winner's", bus.got(2, 0, 0), 0);
        DUE.equal("then the next", bus.got(2, 1, 0), 0x3ff);
        DUE.equal("then the third", bus.got(2, 2, 0), 0x400);
    }

    private static void shortBeforeLong() {
        BitBus bus = new BitBus(2);
        bus.send(0, 0x2a5 << 18, true, 0, 0);
        bus.send(1, 0x2a5, false, 2, 0x5aa5);
        String wire = Wire.frame(0x2a5, false, 2, 0x5aa5) + "111" + Wire.frame(0x2a5 << 18, true, 0, 0);
        DUE.equal("short first", Wire.next(bus, wire.length()), wire);
        BitBus lower = new BitBus(2);
        lower.send(0, (0x2a5 << 18) - 1, true, 0, 0);
        lower.send(1, 0x2a5, false, 0, 0);
        wire = Wire.frame((0x2a5 << 18) - 1, true, 0, 0) + "111" + Wire.frame(0x2a5, false, 0, 0);
        DUE.equal("but not before lower ones", Wire.next(lower, wire.length()), wire);
    }

    private static void longOnesGoByAllBits() {
        for (int k = 0; k < 29; k++) {
            int base = 0x0aaaaaaa & ~(1 << k);
            BitBus bus = new BitBus(3);
            bus.send(0, base | 1 << k, true, 1, 1);
            bus.send(1, base, true, 1, 2);
            String wire = Wire.frame(base, true, 1, 2) + "111" + Wire.frame(base | 1 << k, true, 1, 1);
            DUE.equal("bit " + k, Wire.next(bus, wire.length()), wire);
            DUE.equal("no errors, bit " + k, bus.look(0, 6) + bus.look(1, 6) + bus.look(2, 6), 0);
        }
    }

    private static void bitTimeOfGivingWay() {
        BitBus bus = new BitBus(2);
        bus.send(0, 0x555, false, 0, 0);
        bus.send(1, 0x554, false, 0, 0);
        bus.run(11);
        DUE.equal("both send", bus.look(0, 0) + bus.look(1, 0), 2 * Wire.SENDING);
        bus.run(1);
        DUE.equal("gives way", bus.look(0, 0), Wire.READING);
        DUE.equal("goes on", bus.look(1, 0), Wire.SENDING);
        DUE.equal("this bit is seen", bus.look(0, 7), 12);
        DUE.equal("frame stays", bus.look(0, 4), 1);
        DUE.equal("no error", bus.look(0, 6) + bus.look(0, 1) + bus.look(0, 2), 0);
    }

    /** Node 0 alone sends, and sees one of its bits wrongly; which one is told by its place without stuffed bits. */
    private static BitBus sendsWithWrong(int identifier, boolean wide, int length, int place) {
        BitBus bus = new BitBus(2);
        bus.send(0, identifier, wide, length, 0x5a);
        String bits = Wire.body(identifier, wide, length, 0x5a);
        bus.run(Wire.stuffed(Wire.checked(bits).substring(0, place)).length());
        bus.wrong(0, 0);
        bus.run(1);
        return bus;
    }

    private static void givesWay(String what, BitBus bus, int place) {
        DUE.equal(what + ", mode at " + place, bus.look(0, 0), Wire.READING);
        DUE.equal(what + ", bits at " + place, bus.look(0, 7), place + 1);
        DUE.equal(what + ", no error at " + place, bus.look(0, 6), 0);
        DUE.equal(what + ", queue at " + place, bus.look(0, 4), 1);
    }

    private static void fails(String what, BitBus bus, int place) {
        DUE.equal(what + ", mode at " + place, bus.look(0, 0), Wire.FLAG);
        DUE.equal(what + ", TEC at " + place, bus.look(0, 1), 8);
        DUE.equal(what + ", one error at " + place, bus.look(0, 6), 1);
        DUE.equal(what + ", queue at " + place, bus.look(0, 4), 1);
    }

    private static void amongTheIdentifiersBits() {
        for (int place = 1; place <= 11; place++) {
            int one = 1 << 11 - place;
            givesWay("short", sendsWithWrong(one, false, 1, place), place);
            givesWay("short, all 1", sendsWithWrong(0x7ff, false, 1, place), place);
            givesWay("long", sendsWithWrong(one << 18, true, 1, place), place);
        }
        for (int place = 14; place <= 31; place++) {
            int one = 1 << 31 - place;
            givesWay("long, the lower 18", sendsWithWrong(one, true, 1, place), place);
            givesWay("long, all 1", sendsWithWrong(0x1fffffff, true, 1, place), place);
        }
    }

    private static void behindTheFirst11() {
        for (int place = 12; place <= 13; place++) {
            givesWay("long", sendsWithWrong(0x2a5 << 18, true, 1, place), place);
            givesWay("long, all 1", sendsWithWrong(0x1fffffff, true, 1, place), place);
        }
    }

    /** A 0 seen as 1, at the first bit, the identifier's, those behind the 11 and those behind the 18. */
    private static void ifThatWasAOne() {
        for (int place = 0; place <= 14; place++) {
            int identifier = place % 2 == 0 ? 0x555 : 0x2aa;
            fails("short", sendsWithWrong(identifier, false, 1, place), place);
        }
        for (int place = 0; place <= 34; place++) {
            if (place == 12 || place == 13) {
                continue;
            }
            // Bits that alternate from the first on or, behind the two 1, from the fourteenth on.
            int upper = place % 2 == 0 ? 0x555 : 0x2aa;
            int lower = place % 2 == 0 ? 0x15555 : 0x2aaaa;
            fails("long", sendsWithWrong(upper << 18 | lower, true, 1, place), place);
        }
    }

    private static void noStuffedOne() {
        BitBus bus = new BitBus(2);
        bus.send(0, 1, false, 0, 0);
        bus.wrong(0, 5);
        bus.run(5);
        DUE.equal("five 0", bus.look(0, 7), 5);
        bus.run(1);
        fails("the stuffed 1 seen as 0", bus, 5);
        // 0 0000 and a stuffed 1; then the identifier's own.
        givesWay("the 1 behind a stuffed 1", sendsWithWrong(0b00001010101, false, 0, 5), 5);
        givesWay("the 1 before it", sendsWithWrong(0b00010101010, false, 0, 4), 4);
    }

    private static void elseError() {
        for (int k = 0; k < 2; k++) {
            boolean wide = k == 1;
            int identifier = wide ? 0x0aaaaaaa : 0x555;
            String bits = Wire.checked(Wire.body(identifier, wide, 8, 0x5a));
            for (int place = wide ? 32 : 14; place < bits.length(); place++) {
                fails(wide ? "long" : "short", sendsWithWrong(identifier, wide, 8, place), place);
            }
        }
    }

    private static void sameIdentifier() {
        BitBus bytes = new BitBus(3);
        bytes.send(0, 0x555, false, 1, 0x81);
        bytes.send(1, 0x555, false, 1, 0x80);
        bytes.run(Wire.stuffed(Wire.body(0x555, false, 1, 0x81)).length());
        fails("a 1 in the last bit of the byte", bytes, 0);
        DUE.equal("the other goes on", bytes.look(1, 0), Wire.SENDING);
        BitBus lengths = new BitBus(3);
        lengths.send(0, 0x555, false, 1, 0);
        lengths.send(1, 0x555, false, 0, 0);
        lengths.run(Wire.stuffed(Wire.body(0x555, false, 0, 0)).length());
        fails("a 1 in the last bit of the length", lengths, 0);
        DUE.equal("the other goes on", lengths.look(1, 0), Wire.SENDING);
    }

    private static void isAReaderThen() {
        BitBus bus = new BitBus(2);
        bus.send(0, 0x555, false, 0, 0);
        bus.send(1, 0x554, false, 0, 0);
        DUE.equal("it says 0 in the slot", bus.run(Wire.frame(0x554, false, 0, 0).length()), 1);
        DUE.equal("it got the frame", bus.got(0, 0, 0), 0x554);
        BitBus error = new BitBus(2);
        error.send(0, 0x555, false, 0, 0);
        error.send(1, 0x554, false, 0, 0);
        int end = Wire.frame(0x554, false, 0, 0).length() - 1;
        error.wrong(0, end - 1);
        error.run(end);
        DUE.equal("its error is a reader's", error.look(0, 2) + 10 * error.look(0, 1), 1);
        BitBus last = new BitBus(2);
        last.send(0, 0x555, false, 0, 0);
        last.send(1, 0x554, false, 0, 0);
        last.wrong(0, end);
        last.run(end + 1);
        DUE.equal("the last bit of the END is no error for it", last.look(0, 6), 0);
    }
}
