import java.util.Random;

/** Terms: the bits of a frame, its check, its stuffed bits, and how a reader takes it apart. */
public final class FrameTest {
    private static final Due DUE = new Due();

    public static void main(String[] args) {
        DUE.hold("Its BITS, in order", FrameTest::writesKnownBits);
        DUE.hold("an IDENTIFIER of 11 bits, or of 29 if it is LONG, a LENGTH 0 .. 8", FrameTest::writesAllKinds);
        DUE.hold("behind five equal ones comes one that is the opposite", FrameTest::stuffsBehindFive);
        DUE.hold("stuffed ones count", FrameTest::stuffedOnesCount);
        DUE.hold("also behind the last one of the check", FrameTest::stuffsBehindTheCheck);
        DUE.hold("behind the last one of the check: the sixth equal one is an ERROR", FrameTest::sixthBehindTheCheck);
        DUE.hold("Then, not STUFFED: 1, a SLOT, 1, and seven 1", FrameTest::doesNotStuffBehindTheCheck);
        DUE.hold("a LENGTH above 8 counts as 8 bytes", FrameTest::countsLengthAbove8As8);
        DUE.hold("the second bit behind the first 11 says whether it is LONG", FrameTest::longMark);
        DUE.hold("the bit behind the first 11 and the one behind the 18 ask for nothing", FrameTest::spareBits);
        DUE.end();
    }

    /** Written out by hand, that the tests' own Wire is no mere echo. */
    private static void writesKnownBits() {
        BitBus bus = new BitBus(2);
        bus.send(0, 0, false, 0, 0);
        // Nineteen 0, a check of 0: thirty-four 0, with a 1 behind each five.
        String zeros = "000001".repeat(6) + "0000";
        DUE.equal("all 0", Wire.next(bus, 53), zeros + "1" + "0" + "1" + "1111111" + "111");
        BitBus wide = new BitBus(2);
        wide.send(1, 0x1fffffff, true, 1, 0xaa);
        // 31 times 1 and, behind them, five 0 of which the last two are the first two of the length.
        String head = "0" + "111110".repeat(6) + "1" + "000001" + "01" + "10101010";
        DUE.equal("long, all 1", Wire.next(wide, head.length()), head);
    }

    private static void writesAllKinds() {
        Random draw = new Random(5);
        for (int i = 0; i < 300; i++) {
            boolean wide = draw.nextBoolean();
            int identifier = draw.nextInt() >>> (wide ? 3 : 21);
            int length = i % 9;
            // Few bits set or few not, that there is much to stuff.
            long data = draw.nextLong() & draw.nextLong() & draw.nextLong();
            data = i % 2 == 0 ? data : ~data;
            BitBus bus = new BitBus(2 + i % 3);
            bus.send(1, identifier, wide, length, data);
            String wire = Wire.frame(identifier, wide, length, data) + "111";
            DUE.equal("frame " + i, Wire.next(bus, wire.length()), wire);
            DUE.equal("identifier " + i, bus.got(0, 0, 0), identifier);
            DUE.equal("bytes " + i, bus.bytes(0, 0), length == 8 ? data : data & (1L << 8 * length) - 1);
        }
    }

    private static void begins(int identifier, String wire) {
        BitBus bus = new BitBus(2);
        bus.send(0, identifier, false, 0, 0);
        DUE.equal("frame of " + Wire.number(identifier, 11), Wire.next(bus, wire.length()), wire);
    }

    /** By hand; the first bit of a frame, a 0, counts too. */
    private static void stuffsBehindFive() {
        begins(0b00010101010, "0" + "000" + "10101010");
        begins(0b00001010101, "00000" + "1" + "1010101");
        begins(0b00000101010, "00000" + "1" + "0101010");
        begins(0b11110101010, "0" + "1111" + "0101010");
        begins(0b11111010101, "0" + "11111" + "0" + "010101");
        begins(0b11111101010, "0" + "11111" + "0" + "101010");
    }

    private static void stuffedOnesCount() {
        begins(0b00001111010, "00000" + "1" + "1111" + "0" + "010");
        begins(0b00001110101, "00000" + "1" + "111" + "0101");
        begins(0b11111000010, "0" + "11111" + "0" + "0000" + "1" + "10");
        begins(0b11111000101, "0" + "11111" + "0" + "000" + "101");
        begins(0b00001111000, "00000" + "1" + "1111" + "0" + "0000" + "1");
    }

    private interface Ending {
        void meet(int identifier, String bits, String stuffed);
    }

    /** All short frames without bytes whose bits end like this, up to the last of the check, as they are on the bus. */
    private static void allThatEnd(String ending, Ending test) {
        int found = 0;
        for (int identifier = 0; identifier < 2048; identifier++) {
            String bits = Wire.checked(Wire.body(identifier, false, 0, 0));
            String stuffed = Wire.stuffed(bits);
            int last = bits.length() - 1;
            String before = Wire.stuffed(bits.substring(0, last)) + bits.charAt(last);
            if (before.endsWith(ending)) {
                found++;
                test.meet(identifier, bits, stuffed);
            }
        }
        DUE.yes("some frames end in " + ending, found > 5);
    }

    private static void stuffsBehindTheCheck() {
        for (String five : new String[] {"00000", "11111"}) {
            allThatEnd(five, (identifier, bits, stuffed) -> {
                BitBus bus = new BitBus(2);
                bus.send(0, identifier, false, 0, 0);
                bus.run(stuffed.length() - 1);
                DUE.equal("check is whole of " + identifier, bus.look(1, 7), bits.length());
                bus.run(1);
                DUE.equal("a stuffed one behind it of " + identifier, bus.look(1, 7), bits.length());
                DUE.equal("of the sender of " + identifier, bus.look(0, 7), bits.length());
                DUE.equal("its level of " + identifier, bus.levels() & 1, five.charAt(0) == '0' ? 1 : 0);
                DUE.equal("before the end of " + identifier, bus.run(9), 0);
                DUE.equal("sent " + identifier, bus.run(1), 1);
            });
        }
    }

    private static void sixthBehindTheCheck() {
        for (String five : new String[] {"00000", "11111"}) {
            allThatEnd(five, (identifier, bits, stuffed) -> {
                for (int node = 0; node < 2; node++) {
                    BitBus bus = new BitBus(2);
                    bus.send(0, identifier, false, 0, 0);
                    bus.wrong(node, stuffed.length() - 1);
                    bus.run(stuffed.length() - 1);
                    DUE.equal("five are fine of " + identifier, bus.look(node, 6), 0);
                    bus.run(1);
                    DUE.equal("six are not of " + identifier, bus.look(node, 6), 1);
                    DUE.equal("of the other of " + identifier, bus.look(1 - node, 6), 0);
                }
            });
        }
    }

    /** Four 1 and the 1 before the slot are five, but these are not stuffed; nor is the end. */
    private static void doesNotStuffBehindTheCheck() {
        for (String end : new String[] {"01111", "10000"}) {
            allThatEnd(end, (identifier, bits, stuffed) -> {
                BitBus bus = new BitBus(2);
                bus.send(0, identifier, false, 0, 0);
                String wire = stuffed + "1" + "0" + "1" + "1111111" + "111";
                DUE.equal("bits of " + identifier, Wire.next(bus, stuffed.length() + 1), stuffed + "1");
                DUE.equal("none is stuffed of " + identifier, bus.look(1, 7), bits.length() + 1);
                String rest = wire.substring(stuffed.length() + 1);
                DUE.equal("rest of " + identifier, Wire.next(bus, rest.length()), rest);
                DUE.equal("got " + identifier, bus.got(1, 0, 0), identifier);
            });
        }
    }

    /** A reader is shown a frame of the same size on the bus, with another body and the check that is right for it. */
    private static boolean reads(int identifier, boolean wide, long data, int place, String others) {
        String body = Wire.body(identifier, wide, 8, data);
        String other = body.substring(0, place) + others + body.substring(place + others.length());
        String levels = Wire.stuffed(Wire.checked(body));
        String seen = Wire.stuffed(Wire.checked(other));
        if (levels.length() != seen.length()) {
            return false;
        }
        BitBus bus = new BitBus(3);
        bus.send(0, identifier, wide, 8, data);
        Wire.show(bus, 1, levels, seen);
        DUE.equal("sent", bus.run(10), 1);
        DUE.equal("no errors", bus.look(0, 6) + bus.look(1, 6) + bus.look(2, 6), 0);
        DUE.equal("identifier", bus.got(1, 0, 0), identifier);
        DUE.equal("long", bus.got(1, 0, 1), wide ? 1 : 0);
        DUE.equal("length", bus.got(1, 0, 2), 8);
        DUE.equal("bytes", bus.bytes(1, 0), data);
        return true;
    }

    private static void countsLengthAbove8As8() {
        Random draw = new Random(8);
        for (int length = 8; length <= 15; length++) {
            for (boolean wide : new boolean[] {false, true}) {
                int tried = 0;
                for (int i = 0; i < 30; i++) {
                    int identifier = draw.nextInt() >>> (wide ? 3 : 21);
                    String bits = Wire.number(length, 4);
                    tried += reads(identifier, wide, draw.nextLong(), wide ? 35 : 15, bits) ? 1 : 0;
                }
                DUE.yes("some fit, length " + length, tried > 3);
            }
        }
    }

    /** A reader that sees a 1 there in a short frame takes 18 more for the identifier, and so misses the end. */
    private static void longMark() {
        Random draw = new Random(13);
        int tried = 0;
        for (int i = 0; i < 60; i++) {
            boolean wide = i % 2 == 1;
            int identifier = draw.nextInt() >>> (wide ? 3 : 21);
            tried += reads(identifier, wide, draw.nextLong(), 12, wide ? "0" : "1") ? 1 : 0;
        }
        DUE.yes("the first bit says nothing of it, some fit", tried > 6);
        String body = Wire.body(0x2a5, false, 1, 0x5a);
        BitBus bus = new BitBus(3);
        bus.send(0, 0x2a5, false, 1, 0x5a);
        bus.wrong(1, Wire.stuffed(body.substring(0, 13)).length());
        bus.run(Wire.stuffed(Wire.checked(body)).length() + 5);
        DUE.equal("no error in the check, in the slot and behind it", bus.look(1, 6), 0);
        DUE.equal("a long one goes on where a short one ends", bus.look(1, 0), Wire.READING);
        bus.run(3);
        DUE.equal("it sees a sixth 1 there", bus.look(1, 6), 1);
        DUE.equal("and gets nothing", bus.look(1, 5), 0);
        DUE.equal("that the second reader had not yet either", bus.look(2, 5), 0);
    }

    private static void spareBits() {
        Random draw = new Random(9);
        int[] places = {12, 14, 12, 32, 33, 34};
        for (int k = 0; k < places.length; k++) {
            boolean wide = k >= 2;
            int tried = 0;
            for (int i = 0; i < 30; i++) {
                int identifier = draw.nextInt() >>> (wide ? 3 : 21);
                String bit = k == 2 ? "0" : "1";
                tried += reads(identifier, wide, draw.nextLong(), places[k], bit) ? 1 : 0;
            }
            DUE.yes("some fit, place " + places[k], tried > 3);
        }
    }
}
