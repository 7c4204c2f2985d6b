/** Terms: what is an error and what not, its flag, what is behind it, and the counts. */
public final class ErrorTest {
    private static final Due DUE = new Due();
    private static final int ID = 0x555;
    private static final String BITS = Wire.stuffed(Wire.checked(Wire.body(ID, false, 1, 0x5a)));
    private static final int BEFORE_SLOT = BITS.length();
    private static final int SLOT = BEFORE_SLOT + 1;
    private static final int BEHIND_SLOT = BEFORE_SLOT + 2;
    private static final int END = BEFORE_SLOT + 3;

    public static void main(String[] args) {
        readerBehindTheCheck();
        senderBehindTheCheck();
        lastBitForTheSender();
        readerWithWrongCheck();
        readerMissesStuffedBit();
        twoReadersAckTogether();
        flagsAndWhatFollows();
        delimiterBroken();
        pauseBroken();
        unansweredGoesOff();
        offCountsInARow();
        passiveReader();
        recIsOneLess();
        DUE.end();
    }

    private static BitBus busWithFrame(int nodes) {
        BitBus bus = new BitBus(nodes);
        bus.send(0, ID, false, 1, 0x5a);
        return bus;
    }

    private static BitBus afterWrong(int nodes, int node, int bitTime) {
        BitBus bus = busWithFrame(nodes);
        bus.wrong(node, bitTime);
        bus.run(bitTime + 1);
        return bus;
    }

    private static void readerBehindTheCheck() {
        for (int at = BEFORE_SLOT; at < END + 7; at++) {
            boolean error = at != SLOT && at != END + 6;
            BitBus bus = afterWrong(3, 1, at);
            int mode = at == SLOT ? Wire.READING : error ? Wire.FLAG : Wire.PAUSE;
            DUE.equal("reader wrong at " + (at - SLOT), bus.look(1, 0), mode);
            DUE.equal("REC, wrong at " + (at - SLOT), bus.look(1, 2), error ? 1 : 0);
            DUE.equal("errors, wrong at " + (at - SLOT), bus.look(1, 6), error ? 1 : 0);
            DUE.equal("TEC, wrong at " + (at - SLOT), bus.look(1, 1), 0);
            DUE.equal("inbox, wrong at " + (at - SLOT), bus.look(1, 5), at == END + 6 ? 1 : 0);
        }
    }

    private static void senderBehindTheCheck() {
        for (int at = BEFORE_SLOT; at < END + 7; at++) {
            BitBus bus = afterWrong(2, 0, at);
            DUE.equal("sender wrong at " + (at - SLOT), bus.look(0, 0), Wire.FLAG);
            DUE.equal("TEC, wrong at " + (at - SLOT), bus.look(0, 1), 8);
            DUE.equal("queue, wrong at " + (at - SLOT), bus.look(0, 4), 1);
            DUE.equal("reader has it, wrong at " + (at - SLOT), bus.look(1, 5), at >= END + 5 ? 1 : 0);
        }
    }

    private static void lastBitForTheSender() {
        BitBus bus = afterWrong(2, 0, END + 6);
        DUE.equal("reader in pause", bus.look(1, 0), Wire.PAUSE);
        // The flag begins in the reader's pause: a first bit, and the sixth 0 is the reader's error.
        DUE.equal("both flags", Wire.next(bus, 12), Wire.zeros(12));
        DUE.equal("reader's error", bus.look(1, 2), 1);
        DUE.equal("sent at last", bus.run(150), 1);
        DUE.equal("got twice", bus.look(1, 5), 2);
    }

    /** A byte's bit that is seen wrongly between others, so that nothing about stuffed bits changes. */
    private static int bitOfByte() {
        return BITS.indexOf("01011010") + 3;
    }

    private static void readerWithWrongCheck() {
        BitBus bus = busWithFrame(3);
        bus.wrong(1, bitOfByte());
        bus.run(SLOT + 1);
        DUE.equal("another one says 0 in the slot", bus.levels() & 1, 0);
        DUE.equal("no error yet", bus.look(1, 6), 0);
        bus.run(1);
        DUE.equal("error behind the slot", bus.look(1, 0), Wire.FLAG);
        DUE.equal("counted once", bus.look(1, 2) + 10 * bus.look(1, 6), 11);
        DUE.equal("sender goes on", bus.look(0, 0), Wire.SENDING);
        bus.run(1);
        DUE.equal("sender sees the flag", bus.look(0, 1), 8);
        DUE.equal("other reader sees the flag", bus.look(2, 2), 1);
        BitBus seesZero = busWithFrame(3);
        seesZero.wrong(1, bitOfByte());
        seesZero.run(BEHIND_SLOT);
        seesZero.wrong(1, 0);
        seesZero.run(1);
        DUE.equal("a 0 behind the slot is the same one error", seesZero.look(1, 6) + 10 * seesZero.look(1, 2), 11);
        BitBus alone = busWithFrame(2);
        alone.wrong(1, bitOfByte());
        alone.run(SLOT + 1);
        DUE.equal("nobody says 0 in the slot", alone.levels() & 1, 1);
        DUE.equal("sender's error in the slot", alone.look(0, 0), Wire.FLAG);
        DUE.equal("sender's TEC", alone.look(0, 1), 8);
        DUE.equal("reader reads on", alone.look(1, 0), Wire.READING);
    }

    private static void readerMissesStuffedBit() {
        BitBus bus = new BitBus(2);
        bus.send(0, 1, false, 0, 0);
        bus.wrong(1, 5);
        bus.run(5);
        DUE.equal("before it", bus.look(1, 7), 5);
        bus.run(1);
        DUE.equal("a sixth 0", bus.look(1, 0), Wire.FLAG);
        DUE.equal("REC", bus.look(1, 2), 1);
        DUE.equal("sender saw it rightly", bus.look(0, 7), 5);
        bus.run(1);
        DUE.equal("sender drives 0 and sees 0", bus.look(0, 0), Wire.SENDING);
        bus.run(4);
        DUE.equal("five 0 of both", bus.look(0, 7), 10);
        bus.run(1);
        DUE.equal("a sixth 0 by the flag", bus.look(0, 0), Wire.FLAG);
        DUE.equal("TEC", bus.look(0, 1), 8);
    }

    private static void twoReadersAckTogether() {
        BitBus bus = busWithFrame(4);
        bus.wrong(2, SLOT);
        DUE.equal("sent", bus.run(END + 7), 1);
        DUE.equal("a reader that sees its 0 as 1 has no error", bus.look(2, 6), 0);
        DUE.equal("and got it", bus.look(2, 5), 1);
    }

    private static void flagsAndWhatFollows() {
        BitBus bus = busWithFrame(2);
        bus.wrong(0, 0);
        String wire = Wire.zeros(12) + Wire.ones(11) + BITS + "1" + "0" + "1" + "1111111";
        DUE.equal("two flags, delimiter, pause, again", Wire.next(bus, wire.length()), wire);
        BitBus blind = busWithFrame(2);
        blind.wrong(0, 0);
        blind.run(1);
        for (int i = 1; i <= 6; i++) {
            DUE.equal("in the flag " + i, blind.look(0, 0), Wire.FLAG);
            blind.wrong(0, 0);
            blind.run(1);
        }
        DUE.equal("whatever it saw", blind.look(0, 0), Wire.WAITING);
        // The reader's own flag goes on for five bit times more.
        blind.run(4);
        DUE.equal("waits for a 1", blind.look(0, 0), Wire.WAITING);
        blind.wrong(0, 0);
        blind.run(1);
        DUE.equal("a 0 seen as 1", blind.look(0, 0), Wire.DELIMITER);
    }

    private static void delimiterBroken() {
        BitBus bus = busWithFrame(2);
        bus.wrong(0, 0);
        bus.run(13);
        DUE.equal("delimiter", bus.look(0, 0), Wire.DELIMITER);
        bus.run(6);
        DUE.equal("six of seven", bus.look(0, 0), Wire.DELIMITER);
        bus.wrong(0, 0);
        bus.run(1);
        DUE.equal("a 0", bus.look(0, 0), Wire.WAITING);
        DUE.equal("no error", bus.look(0, 6), 1);
        bus.run(1);
        DUE.equal("a 1", bus.look(0, 0), Wire.DELIMITER);
        bus.run(6);
        DUE.equal("counted anew", bus.look(0, 0), Wire.DELIMITER);
        bus.run(1);
        DUE.equal("seven", bus.look(0, 0), Wire.PAUSE);
    }

    private static void pauseBroken() {
        for (int at = 0; at < 3; at++) {
            BitBus bus = busWithFrame(2);
            bus.send(0, ID, false, 0, 0);
            bus.run(END + 7 + at);
            bus.wrong(0, 0);
            bus.run(1);
            DUE.equal("a 0 in the pause, " + at, bus.look(0, 0), Wire.READING);
            DUE.equal("is the first bit, " + at, bus.look(0, 7), 1);
        }
        BitBus idle = new BitBus(2);
        idle.wrong(0, 0);
        idle.run(6);
        DUE.equal("a 0, then five 1", idle.look(0, 7), 6);
        idle.run(1);
        DUE.equal("a sixth 1", idle.look(0, 0), Wire.FLAG);
        DUE.equal("a reader's error", idle.look(0, 2), 1);
    }

    /** Two senders of one frame and no reader: none says 0 in the slot, time after time. */
    private static void unansweredGoesOff() {
        BitBus bus = new BitBus(2);
        bus.send(0, ID, false, 1, 0x5a);
        bus.send(1, ID, false, 1, 0x5a);
        for (int time = 1; time <= 7; time++) {
            DUE.equal("frame " + time, Wire.next(bus, SLOT + 1), BITS + "11");
            DUE.equal("TEC " + time, bus.look(0, 1), 8 * time);
            DUE.equal("passive " + time, bus.look(0, 3), time >= 4 ? 1 : 0);
            DUE.equal("flag " + time, bus.look(1, 0), Wire.FLAG);
            String flag = time >= 4 ? Wire.ones(6) : Wire.zeros(6);
            DUE.equal("after " + time, Wire.next(bus, 17), flag + Wire.ones(11));
            DUE.equal("idle " + time, bus.look(0, 0), Wire.IDLE);
        }
        DUE.equal("last frame", Wire.next(bus, SLOT + 1), BITS + "11");
        DUE.equal("TEC 64", bus.look(0, 1), 64);
        DUE.equal("off", bus.look(0, 0) + 10 * bus.look(1, 0), 11 * Wire.OFF);
        DUE.equal("39 bits", Wire.next(bus, 39), Wire.ones(39));
        DUE.equal("still off", bus.look(0, 0), Wire.OFF);
        DUE.equal("still TEC", bus.look(0, 1), 64);
        DUE.equal("still passive", bus.look(0, 3), 1);
        bus.run(1);
        DUE.equal("idle again", bus.look(0, 0), Wire.IDLE);
        DUE.equal("no counts", bus.look(0, 1) + bus.look(0, 2) + bus.look(0, 3), 0);
        DUE.equal("errors so far", bus.look(0, 6), 8);
        DUE.equal("frame stayed", bus.look(0, 4), 1);
        DUE.equal("and goes again", Wire.next(bus, SLOT + 1), BITS + "11");
    }

    private static void offCountsInARow() {
        BitBus bus = new BitBus(2);
        bus.wrong(0, 0);
        bus.run(40);
        bus.send(0, ID, false, 1, 0x5a);
        bus.send(1, ID, false, 1, 0x5a);
        bus.run(7 * (SLOT + 18) + SLOT + 1);
        DUE.equal("off", bus.look(0, 0), Wire.OFF);
        DUE.equal("REC of an error before", bus.look(0, 2) + 10 * bus.look(1, 2), 11);
        bus.wrong(0, 30);
        bus.run(40);
        DUE.equal("the other one is idle", bus.look(1, 0), Wire.IDLE);
        DUE.equal("its counts are 0", bus.look(1, 1) + bus.look(1, 2), 0);
        DUE.equal("one 0 in between", bus.look(0, 0), Wire.OFF);
        bus.run(BEFORE_SLOT + 1);
        DUE.equal("off drives nothing in the slot", bus.run(1), 0);
        DUE.equal("level of the slot", bus.levels() & 1, 1);
        DUE.equal("a frame on the bus holds it off", bus.look(0, 0), Wire.OFF);
        DUE.equal("it does not read", bus.look(0, 7), 0);
    }

    private static void passiveReader() {
        BitBus bus = new BitBus(2);
        for (int time = 1; time <= 31; time++) {
            bus.wrong(1, 0);
            bus.run(40);
            DUE.equal("REC of 1, " + time, bus.look(1, 2), time);
            DUE.equal("REC of 0, " + time, bus.look(0, 2), time);
            DUE.equal("passive " + time, bus.look(1, 3), 0);
        }
        bus.wrong(1, 0);
        bus.run(7);
        DUE.equal("REC 32", bus.look(1, 2), 32);
        DUE.equal("passive", bus.look(1, 3), 1);
        DUE.equal("in a flag", bus.look(1, 0), Wire.FLAG);
        DUE.equal("that nobody sees", Wire.next(bus, 6), Wire.ones(6));
        DUE.equal("then waiting", bus.look(1, 0), Wire.WAITING);
        bus.run(30);
        DUE.equal("other one", bus.look(0, 2), 31);
        bus.send(0, ID, false, 1, 0x5a);
        DUE.equal("passive ones still say 0 in the slot", bus.run(END + 7), 1);
        DUE.equal("REC 31", bus.look(1, 2), 31);
        DUE.equal("passive no more", bus.look(1, 3), 0);
    }

    private static void recIsOneLess() {
        BitBus bus = new BitBus(2);
        bus.wrong(1, 0);
        bus.run(40);
        DUE.equal("REC 1", bus.look(1, 2), 1);
        bus.filter(1, 1, 0);
        bus.send(0, ID, false, 1, 0x5a);
        bus.run(END + 5);
        DUE.equal("not before the sixth bit of the end", bus.look(1, 2), 1);
        bus.run(1);
        DUE.equal("with it, also if the filter leaves it out", bus.look(1, 2), 0);
        DUE.equal("left out", bus.look(1, 5), 0);
        bus.run(10);
        bus.send(0, ID, false, 1, 0x5a);
        bus.run(END + 20);
        DUE.equal("never below 0", bus.look(1, 2) + bus.look(0, 1), 0);
    }
}
