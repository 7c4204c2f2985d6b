/** Promise 7: look. */
public final class P07LookTest {
    private static final Due DUE = new Due();

    public static void main(String[] args) {
        followsAFrame();
        followsAnError();
        countsRows();
        refuses();
        DUE.end();
    }

    private static void followsAFrame() {
        String bits = Wire.checked(Wire.body(0x555, false, 0, 0));
        int stuffed = Wire.stuffed(bits).length();
        BitBus bus = new BitBus(2);
        bus.send(0, 0x555, false, 0, 0);
        for (int i = 1; i <= stuffed; i++) {
            bus.run(1);
            DUE.equal("sender's mode at " + i, bus.look(0, 0), Wire.SENDING);
            DUE.equal("reader's mode at " + i, bus.look(1, 0), Wire.READING);
            DUE.equal("both saw as many at " + i, bus.look(0, 7), bus.look(1, 7));
            // 0 and 10101010101, then seven 0: the bit behind the fifth of them is the first stuffed one.
            if (i <= 19) {
                DUE.equal("bits at " + i, bus.look(1, 7), i <= 17 ? i : i - 1);
            }
        }
        DUE.equal("all but the stuffed ones", bus.look(0, 7), bits.length());
        for (int i = 1; i <= 9; i++) {
            bus.run(1);
            DUE.equal("bits behind the check " + i, bus.look(0, 7), bits.length() + i);
            DUE.equal("mode behind the check " + i, bus.look(1, 0), Wire.READING);
            DUE.equal("inbox behind the check " + i, bus.look(1, 5), i == 9 ? 1 : 0);
            DUE.equal("queue behind the check " + i, bus.look(0, 4), 1);
        }
        for (int i = 1; i <= 3; i++) {
            bus.run(1);
            DUE.equal("pause " + i, bus.look(0, 0) + 10 * bus.look(1, 0), 11 * Wire.PAUSE);
            DUE.equal("no bits in the pause", bus.look(0, 7) + bus.look(1, 7), 0);
            DUE.equal("queue in the pause", bus.look(0, 4), 0);
        }
        bus.run(1);
        DUE.equal("idle", bus.look(0, 0) + bus.look(1, 0), Wire.IDLE);
    }

    private static void followsAnError() {
        BitBus bus = new BitBus(2);
        bus.send(0, 0x555, false, 0, 0);
        bus.wrong(0, 0);
        int[] modes = new int[24];
        java.util.Arrays.fill(modes, 1, 7, Wire.FLAG);
        java.util.Arrays.fill(modes, 7, 13, Wire.WAITING);
        java.util.Arrays.fill(modes, 13, 20, Wire.DELIMITER);
        java.util.Arrays.fill(modes, 20, 23, Wire.PAUSE);
        for (int i = 1; i <= 23; i++) {
            bus.run(1);
            DUE.equal("mode after " + i, bus.look(0, 0), modes[i]);
            DUE.equal("TEC after " + i, bus.look(0, 1), 8);
            DUE.equal("errors after " + i, bus.look(0, 6), 1);
            DUE.equal("bits after " + i, bus.look(0, 7), 0);
            DUE.equal("reader's REC after " + i, bus.look(1, 2), i < 6 ? 0 : 1);
            DUE.equal("reader's bits after " + i, bus.look(1, 7), i < 6 ? i : 0);
        }
        DUE.equal("sent again", bus.run(100), 1);
        DUE.equal("TEC is one less", bus.look(0, 1), 7);
        DUE.equal("REC is one less", bus.look(1, 2), 0);
        DUE.equal("errors stay", bus.look(0, 6) + bus.look(1, 6), 2);
        DUE.equal("not passive", bus.look(0, 3), 0);
    }

    private static void countsRows() {
        BitBus bus = new BitBus(2);
        for (int i = 0; i < 3; i++) {
            bus.send(1, 100, false, 0, 0);
            DUE.equal("queue", bus.look(1, 4), i + 1);
        }
        bus.run(500);
        DUE.equal("queue is empty", bus.look(1, 4), 0);
        DUE.equal("inbox", bus.look(0, 5), 3);
        DUE.equal("of the sender", bus.look(1, 5), 0);
    }

    private static void refuses() {
        BitBus bus = new BitBus(3);
        DUE.badArgument("node -1", () -> bus.look(-1, 0));
        DUE.badArgument("node 3", () -> bus.look(3, 0));
        DUE.badArgument("what -1", () -> bus.look(0, -1));
        DUE.badArgument("what 8", () -> bus.look(0, 8));
        DUE.badArgument("both", () -> bus.look(9, 9));
    }
}
