/** 'An object is used for at most 512 calls after it has been made': all of these answer as they should. */
public final class LongUseTest {
    private static final Due DUE = new Due();
    private static final int CALLS = 512;

    public static void main(String[] args) {
        DUE.hold("512 calls: half of them send, each frame goes", LongUseTest::sends);
        DUE.hold("512 calls: frames come and are taken", LongUseTest::takes);
        DUE.hold("512 calls: as many errors as there can be", LongUseTest::errors);
        DUE.hold("512 calls of 1000 bit times", LongUseTest::runs);
        DUE.end();
    }

    private static void sends() {
        BitBus bus = new BitBus(2);
        for (int call = 0; call < CALLS; call += 2) {
            DUE.equal("queue at " + call, bus.send(call / 2 % 2, call, call % 3 == 0, call % 9, call), 1);
            DUE.equal("sent at " + (call + 1), bus.run(200), 1);
        }
    }

    private static void takes() {
        BitBus bus = new BitBus(4);
        for (int call = 0; call < CALLS; call += 4) {
            bus.send(0, call, false, 4, call);
            bus.run(150);
            DUE.equal("bytes at " + call, bus.bytes(3, 0), call);
            DUE.equal("left at " + call, bus.take(3), 0);
        }
    }

    /** A PASSIVE reader has an error every 17 bit times at most; two calls for each. */
    private static void errors() {
        BitBus bus = new BitBus(2);
        int before = 0;
        for (int call = 0; call < CALLS - 4; call += 2) {
            bus.wrong(1, 0);
            bus.run(40);
            before++;
        }
        DUE.equal("errors", bus.look(1, 6), before);
        DUE.equal("REC", bus.look(1, 2), before);
        DUE.equal("PASSIVE", bus.look(1, 3), 1);
        DUE.equal("not OFF", bus.look(1, 0), Wire.IDLE);
    }

    private static void runs() {
        BitBus bus = new BitBus(4);
        for (int call = 0; call < CALLS - 1; call++) {
            DUE.equal("run at " + call, bus.run(1000), 0);
        }
        DUE.equal("levels", bus.levels(), -1);
    }
}
