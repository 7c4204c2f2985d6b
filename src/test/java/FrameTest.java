import java.util.Random;

/** Terms: the bits of a frame, its check, its stuffed bits, and how a reader takes it apart. */
public final class FrameTest {
    private static final Due DUE = new Due();

    public static void main(String[] args) {
        writesKnownBits();
        writesAllKinds();
        stuffsBehindTheCheck();
        countsLengthAbove8As8();
        asksNothingOfSpareBits();
        DUE.end();
    }

    /** Written out by hand, that the tests' own Wire is no mere echo. */
    private static void writesKnownBits() {
        BitBus bus = new BitBus(2);
        bus.send(0, 0, false, 0, 0);
        // Nineteen 0, a check of 0: thirty-four 0, with a 1 behind each five.
        String zeros = "000001".repeat(6) + "0000";
        DUE.equal("all 0", Wire.next(bus, 53), zeros + "1" + "0" + "1" + "1111111" + "111");
        BitBus wide = new BitBus(2);
        wide.send(1, 0x1fffffff, true, 1, 0xaa);
        // 31 times 1 and, behind them, five 0 of which the last two are the first two of the length.
        String head = "0" + "111110".repeat(6) + "1" + "000001" + "01" + "10101010";
        DUE.equal("long, all 1", Wire.next(wide, head.length()), head);
    }

    private static void writesAllKinds() {
        Random draw = new Random(5);
        for (int i = 0; i < 300; i++) {
            boolean wide = draw.nextBoolean();
            int identifier = draw.nextInt() >>> (wide ? 3 : 21);
            int length = i % 9;
            // Few bits set or few not, that there is much to stuff.
            long data = draw.nextLong() & draw.nextLong() & draw.nextLong();
            data = i % 2 == 0 ? data : ~data;
            BitBus bus = new BitBus(2 + i % 3);
            bus.send(1, identifier, wide, length, data);
            String wire = Wire.frame(identifier, wide, length, data) + "111";
            DUE.equal("frame " + i, Wire.next(bus, wire.length()), wire);
            DUE.equal("identifier " + i, bus.got(0, 0, 0), identifier);
            DUE.equal("bytes " + i, bus.bytes(0, 0), length == 8 ? data : data & (1L << 8 * length) - 1);
        }
    }

    private static void stuffsBehindTheCheck() {
        int found = 0;
        for (int identifier = 0; identifier < 2048; identifier++) {
            String bits = Wire.checked(Wire.body(identifier, false, 0, 0));
            String stuffed = Wire.stuffed(bits);
            if (!stuffed.matches(".*(000001|111110)") || bits.endsWith(stuffed.substring(stuffed.length() - 6))) {
                continue;
            }
            found++;
            BitBus bus = new BitBus(2);
            bus.send(0, identifier, false, 0, 0);
            bus.run(stuffed.length() - 1);
            DUE.equal("check is whole of " + identifier, bus.look(1, 7), bits.length());
            bus.run(1);
            DUE.equal("a stuffed one behind it of " + identifier, bus.look(1, 7), bits.length());
            DUE.equal("its level of " + identifier, bus.levels() & 1, stuffed.charAt(stuffed.length() - 1) - '0');
            DUE.equal("sent " + identifier, bus.run(10), 1);
        }
        DUE.equal("some are stuffed there", found > 5 ? 1 : 0, 1);
    }

    /** A reader is shown a frame of the same size on the bus, with another body and the check that is right for it. */
    private static boolean reads(int identifier, boolean wide, long data, int place, String others, int due) {
        String body = Wire.body(identifier, wide, 8, data);
        String other = body.substring(0, place) + others + body.substring(place + others.length());
        String levels = Wire.stuffed(Wire.checked(body));
        String seen = Wire.stuffed(Wire.checked(other));
        if (levels.length() != seen.length()) {
            return false;
        }
        BitBus bus = new BitBus(3);
        bus.send(0, identifier, wide, 8, data);
        Wire.show(bus, 1, levels, seen);
        DUE.equal("sent", bus.run(10), 1);
        DUE.equal("no errors", bus.look(0, 6) + bus.look(1, 6) + bus.look(2, 6), 0);
        DUE.equal("identifier", bus.got(1, 0, 0), identifier);
        DUE.equal("long", bus.got(1, 0, 1), wide ? 1 : 0);
        DUE.equal("length", bus.got(1, 0, 2), due);
        DUE.equal("bytes", bus.bytes(1, 0), data);
        return true;
    }

    private static void countsLengthAbove8As8() {
        Random draw = new Random(8);
        String[] lengths = {"1001", "1010", "1100", "1111"};
        for (String length : lengths) {
            int tried = 0;
            for (int i = 0; i < 40; i++) {
                boolean wide = i % 2 == 1;
                int identifier = draw.nextInt() >>> (wide ? 3 : 21);
                tried += reads(identifier, wide, draw.nextLong(), wide ? 35 : 15, length, 8) ? 1 : 0;
            }
            DUE.equal("some fit, length " + length, tried > 5 ? 1 : 0, 1);
        }
    }

    private static void asksNothingOfSpareBits() {
        Random draw = new Random(9);
        int[] places = {12, 14, 12, 32, 33, 34};
        for (int k = 0; k < places.length; k++) {
            boolean wide = k >= 2;
            int tried = 0;
            for (int i = 0; i < 30; i++) {
                int identifier = draw.nextInt() >>> (wide ? 3 : 21);
                String bit = k == 2 ? "0" : "1";
                tried += reads(identifier, wide, draw.nextLong(), places[k], bit, 8) ? 1 : 0;
            }
            DUE.equal("some fit, place " + places[k], tried > 3 ? 1 : 0, 1);
        }
    }
}
