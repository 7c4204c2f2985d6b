import java.util.Random;

/** Promise 11: check. */
public final class P11CheckTest {
    private static final Due DUE = new Due();

    public static void main(String[] args) {
        DUE.hold("The check of the bits of v", P11CheckTest::known);
        DUE.hold("the n lowest, the highest of these first", P11CheckTest::lowestHighestFirst);
        DUE.hold("n 0: no bit", P11CheckTest::noBit);
        DUE.hold("n 64: all bits", P11CheckTest::allBits);
        DUE.hold("15 bits of it are kept", P11CheckTest::fifteenAreKept);
        DUE.hold("as it is in a frame", P11CheckTest::asInAFrame);
        DUE.hold("it changes nothing", () -> new Refused(DUE, 3).asks("check(-1, 64)", bus -> bus.check(-1, 64)));
        DUE.hold("it is the same on any bus at any time", P11CheckTest::isTheSameAlways);
        DUE.hold("IllegalArgumentException: n is not 0 .. 64", P11CheckTest::refuses);
        DUE.end();
    }

    private static void known() {
        BitBus bus = new BitBus(2);
        DUE.equal("0", bus.check(0, 1), 0);
        DUE.equal("1", bus.check(1, 1), 0x4599);
        DUE.equal("10", bus.check(2, 2), 0x4eab);
        DUE.equal("11", bus.check(3, 2), 0x0b32);
        DUE.equal("01", bus.check(1, 2), 0x4599);
    }

    private static void lowestHighestFirst() {
        BitBus bus = new BitBus(2);
        DUE.equal("a bit above n is nothing", bus.check(-2, 1), 0);
        DUE.equal("100 is not 001", bus.check(4, 3), Wire.checkOf("100"));
        Random draw = new Random(11);
        for (int i = 0; i < 400; i++) {
            long v = draw.nextLong();
            int n = i % 65;
            DUE.equal("check(" + v + ", " + n + ")", bus.check(v, n), Wire.checkOf(Wire.number(v, n)));
        }
    }

    private static void noBit() {
        BitBus bus = new BitBus(2);
        for (long v : new long[] {0, 1, -1, Long.MIN_VALUE, Long.MAX_VALUE}) {
            DUE.equal("of " + v, bus.check(v, 0), 0);
            DUE.equal("and one bit", bus.check(v, 1), (v & 1) == 1 ? 0x4599 : 0);
        }
    }

    private static void allBits() {
        BitBus bus = new BitBus(2);
        for (long v : new long[] {0, 1, -1, Long.MIN_VALUE, Long.MAX_VALUE, 0x0123456789abcdefL}) {
            DUE.equal("of " + v, bus.check(v, 64), Wire.checkOf(Wire.number(v, 64)));
            DUE.equal("all but the highest", bus.check(v, 63), Wire.checkOf(Wire.number(v, 63)));
        }
        DUE.yes("the highest bit counts", bus.check(Long.MIN_VALUE, 64) != bus.check(0, 64));
    }

    /** A 1 and then 0: the sum is doubled until its highest bit is shifted out, and on. */
    private static void fifteenAreKept() {
        BitBus bus = new BitBus(2);
        long sum = 0x4599;
        for (int n = 1; n <= 64; n++) {
            DUE.equal("a 1 and " + (n - 1) + " times 0", bus.check(1L << n - 1, n), sum);
            sum = 2 * sum;
            sum = sum > 0x7fff ? sum - 0x8000 ^ 0x4599 : sum;
        }
    }

    private static void asInAFrame() {
        BitBus bus = new BitBus(2);
        bus.send(0, 0x2a5, false, 5, 0x1122334455L);
        String bits = Wire.body(0x2a5, false, 5, 0x1122334455L);
        long check = bus.check(Long.parseLong(bits, 2), bits.length());
        String wire = Wire.stuffed(bits + Wire.number(check, 15));
        DUE.equal("bits on the bus", Wire.next(bus, wire.length()), wire);
    }

    private static void isTheSameAlways() {
        BitBus busy = Refused.busy(4);
        for (int i = 0; i < 100; i++) {
            DUE.equal("at " + i, busy.check(0x5a5, 11), Wire.checkOf("10110100101"));
            busy.run(1);
        }
    }

    private static void refuses() {
        Refused refused = new Refused(DUE, 3);
        for (int n : new int[] {-1, 65, Integer.MIN_VALUE, Integer.MAX_VALUE}) {
            refused.badArgument("n " + n, bus -> bus.check(1, n));
        }
    }
}
