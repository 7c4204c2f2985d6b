/** 'An object is used for at most 512 calls after it has been made': all of these answer as they should. */
public final class LongUseTest {
    private static final Due DUE = new Due();
    private static final int CALLS = 512;

    public static void main(String[] args) {
        DUE.hold("512 calls: half of them send, each frame goes", LongUseTest::sends);
        DUE.hold("512 calls: frames come and are taken", LongUseTest::takes);
        DUE.hold("512 calls: as high a REC as there can be", LongUseTest::rec);
        DUE.hold("512 calls: thousands of errors", LongUseTest::errors);
        DUE.hold("512 calls of 1000 bit times", LongUseTest::runs);
        DUE.end();
    }

    private static void sends() {
        BitBus bus = new BitBus(2);
        for (int call = 0; call < CALLS; call += 2) {
            DUE.equal("queue at " + call, bus.send(call / 2 % 2, call, call % 3 == 0, call % 9, call), 1);
            DUE.equal("sent at " + (call + 1), bus.run(200), 1);
        }
    }

    private static void takes() {
        BitBus bus = new BitBus(4);
        for (int call = 0; call < CALLS; call += 4) {
            bus.send(0, call, false, 4, call);
            bus.run(150);
            DUE.equal("bytes at " + call, bus.bytes(3, 0), call);
            DUE.equal("left at " + call, bus.take(3), 0);
        }
    }

    /** While no node is PASSIVE each sees the others' flags: four errors in five calls; then one in two. */
    private static void rec() {
        BitBus bus = new BitBus(4);
        int calls = 0;
        int rec = 0;
        for (int round = 0; round < 8; round++) {
            for (int n = 0; n < 4; n++) {
                bus.wrong(n, 50 * n);
            }
            bus.run(200);
            calls += 5;
            rec += 4;
        }
        for (; calls < CALLS - 4; calls += 2) {
            bus.wrong(3, 0);
            bus.run(40);
            rec++;
        }
        DUE.yes("more than a byte holds", rec > 255);
        DUE.equal("REC", bus.look(3, 2), rec);
        DUE.equal("errors", bus.look(3, 6), rec);
        DUE.equal("PASSIVE", bus.look(3, 3), 1);
        DUE.equal("not OFF", bus.look(3, 0), Wire.IDLE);
    }

    /** Two senders of one frame and no reader: eight errors, then both are OFF, and begin anew. */
    private static void errors() {
        BitBus bus = new BitBus(2);
        bus.send(0, Bring.IDENTIFIER, false, 0, 0);
        bus.send(1, Bring.IDENTIFIER, false, 0, 0);
        int upToSlot = Wire.stuffed(Wire.checked(Wire.body(Bring.IDENTIFIER, false, 0, 0))).length() + 2;
        int again = 8 * upToSlot + 7 * (6 + 1 + 7 + 3) + 40;
        int times = 490 * 1000 / again;
        int left = times * again;
        for (; left > 1000; left -= 1000) {
            DUE.equal("none is sent", bus.run(1000), 0);
        }
        bus.run(left - 41);
        DUE.equal("before the last error", bus.look(0, 6), 8 * times - 1);
        bus.run(1);
        for (int n = 0; n < 2; n++) {
            DUE.equal("errors of " + n, bus.look(n, 6), 8 * times);
            DUE.equal("TEC of " + n, bus.look(n, 1), 64);
            DUE.equal("REC of " + n, bus.look(n, 2), 0);
            DUE.equal("queue of " + n, bus.look(n, 4), 1);
        }
    }

    private static void runs() {
        BitBus bus = new BitBus(4);
        for (int call = 0; call < CALLS - 1; call++) {
            DUE.equal("run at " + call, bus.run(1000), 0);
        }
        DUE.equal("levels", bus.levels(), -1);
    }
}
