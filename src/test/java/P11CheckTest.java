import java.util.Random;

/** Promise 11: check. */
public final class P11CheckTest {
    private static final Due DUE = new Due();

    public static void main(String[] args) {
        BitBus bus = new BitBus(2);
        DUE.equal("no bits", bus.check(-1, 0), 0);
        DUE.equal("a 0", bus.check(0, 1), 0);
        DUE.equal("a 1", bus.check(1, 1), 0x4599);
        DUE.equal("10", bus.check(2, 2), 0x4eab);
        DUE.equal("bits above n are nothing", bus.check(-2, 1), 0);
        DUE.equal("sixty-four 0", bus.check(0, 64), 0);
        DUE.equal("0 before the first 1 are nothing", bus.check(5, 64), bus.check(5, 3));
        Random draw = new Random(11);
        for (int i = 0; i < 200; i++) {
            long v = draw.nextLong();
            int n = i % 65;
            DUE.equal("check(" + v + ", " + n + ")", bus.check(v, n), Wire.checkOf(Wire.number(v, n)));
        }
        DUE.badArgument("n -1", () -> bus.check(0, -1));
        DUE.badArgument("n 65", () -> bus.check(0, 65));
        DUE.badArgument("n the least", () -> bus.check(0, Integer.MIN_VALUE));
        DUE.equal("the bus is as it was", Wire.state(bus, 2), Wire.state(new BitBus(2), 2));
        DUE.end();
    }
}
