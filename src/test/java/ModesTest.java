/** Terms: the MODES behind an error or a frame, and how many bit times they last. */
public final class ModesTest {
    private static final Due DUE = new Due();
    private static final int ID = Bring.IDENTIFIER;
    private static final String BITS = Wire.stuffed(Wire.checked(Wire.body(ID, false, 0, 0)));

    // Behind an error in its first bit a sender's flag, and that of the reader, who sees the sixth 0 in it.
    private static final int FLAGS = 11;

    public static void main(String[] args) {
        DUE.hold("IDLE: drives 1, or, with a frame in the queue, 0", ModesTest::idle);
        DUE.hold("FLAG: it drives 0 for 6 bit times", ModesTest::flagOfZeros);
        DUE.hold("FLAG: else 1, for 6 bit times", ModesTest::flagOfOnes);
        DUE.hold("FLAG: whatever it sees", ModesTest::flagIsBlind);
        DUE.hold("WAITING: drives 1; when it sees 1, DELIMITER", ModesTest::waiting);
        DUE.hold("DELIMITER: drives 1; after seven bits seen as 1 PAUSE", ModesTest::delimiter);
        DUE.hold("DELIMITER: a 0: WAITING", ModesTest::delimiterBroken);
        DUE.hold("PAUSE: drives 1; after three bits seen as 1 IDLE", ModesTest::pause);
        DUE.hold("PAUSE: a 0: READING, this being the first bit", ModesTest::pauseBroken);
        DUE.hold("PAUSE: behind an error as behind a frame", ModesTest::pauseBehindAnError);
        DUE.hold("OFF: when it has seen 40 bits in a row as 1 since, it is IDLE", ModesTest::off);
        DUE.hold("OFF: in a row", ModesTest::offInARow);
        DUE.hold("OFF: TEC and REC are 0 then", ModesTest::offCounts);
        DUE.hold("OFF: drives 1, and takes no part", ModesTest::offTakesNoPart);
        DUE.hold("OFF: the frame stays and goes when it is IDLE", ModesTest::offKeepsItsFrames);
        DUE.end();
    }

    private static void idle() {
        BitBus bus = new BitBus(2);
        DUE.equal("nothing to send", Wire.next(bus, 64), Wire.ones(64));
        DUE.equal("idle all the time", bus.look(0, 0) + bus.look(1, 0), Wire.IDLE);
        bus.send(0, ID, false, 0, 0);
        DUE.equal("idle until the next bit time", bus.look(0, 0), Wire.IDLE);
        DUE.equal("a frame in the queue", Wire.next(bus, 1), "0");
        DUE.equal("sending", bus.look(0, 0), Wire.SENDING);
        DUE.equal("reading", bus.look(1, 0), Wire.READING);
        // Though lower, what comes when another frame has begun waits for the end of it, and for the pause.
        bus.send(1, 0, false, 0, 0);
        String rest = Wire.frame(ID, false, 0, 0).substring(1) + "111";
        DUE.equal("the frame that has begun", Wire.next(bus, rest.length()), rest);
        DUE.equal("then the other", Wire.next(bus, 12), "000001" + "000001");
    }

    /** Two senders of one frame and no reader: both have an error in the slot, in one bit time. */
    private static BitBus unanswered(int times) {
        BitBus bus = new BitBus(2);
        bus.send(0, ID, false, 0, 0);
        bus.send(1, ID, false, 0, 0);
        for (int i = 1; i <= times; i++) {
            bus.run(BITS.length() + 2);
            DUE.equal("errors", bus.look(0, 6) + bus.look(1, 6), 2 * i);
            if (i < times) {
                bus.run(6 + 1 + 7 + 3);
            }
        }
        return bus;
    }

    private static void modeIs(BitBus bus, int from, int to, int mode) {
        for (int i = from; i <= to; i++) {
            DUE.equal("mode after " + i, bus.look(0, 0), mode);
            bus.run(1);
        }
    }

    private static void flagOfZeros() {
        DUE.equal("levels", Wire.next(unanswered(1), 10), Wire.zeros(6) + Wire.ones(4));
        BitBus bus = unanswered(3);
        modeIs(bus, 0, 5, Wire.FLAG);
        DUE.equal("mode after 6", bus.look(0, 0), Wire.WAITING);
        DUE.equal("levels of the third", bus.levels() & 0xff, 0xc0);
    }

    private static void flagOfOnes() {
        BitBus bus = unanswered(4);
        DUE.equal("PASSIVE", bus.look(0, 3), 1);
        modeIs(bus, 0, 5, Wire.FLAG);
        DUE.equal("mode after 6", bus.look(0, 0), Wire.WAITING);
        DUE.equal("levels", bus.levels() & 0xff, 0xff);
    }

    private static void flagIsBlind() {
        for (int times : new int[] {1, 4}) {
            BitBus bus = unanswered(times);
            for (int i = 0; i < 6; i++) {
                DUE.equal("mode after " + i, bus.look(0, 0), Wire.FLAG);
                bus.wrong(0, 0);
                bus.run(1);
            }
            DUE.equal("mode after 6", bus.look(0, 0), Wire.WAITING);
            DUE.equal("no errors more", bus.look(0, 6), times);
            int flag = times == 1 ? 0 : 0x3f;
            DUE.equal("it drove the same bit", bus.levels() & 0x3f, flag);
        }
    }

    private static void waiting() {
        BitBus bus = unanswered(1);
        bus.run(6);
        bus.run(1);
        DUE.equal("the first 1", bus.look(0, 0), Wire.DELIMITER);
        BitBus longer = new BitBus(2);
        Bring.senderError(longer);
        longer.run(6);
        modeIs(longer, 6, 11, Wire.WAITING);
        DUE.equal("the first 1 behind both flags", longer.look(0, 0), Wire.DELIMITER);
        DUE.equal("levels", longer.levels() & 0x3f, 1);
        BitBus wrong = new BitBus(2);
        Bring.senderError(wrong);
        wrong.run(8);
        DUE.equal("still waiting", wrong.look(0, 0), Wire.WAITING);
        wrong.wrong(0, 0);
        wrong.run(1);
        DUE.equal("a 0 seen as 1", wrong.look(0, 0), Wire.DELIMITER);
        wrong.run(1);
        DUE.equal("and a 0", wrong.look(0, 0), Wire.WAITING);
        BitBus late = new BitBus(2);
        Bring.senderError(late);
        late.run(FLAGS);
        for (int i = 0; i < 20; i++) {
            late.wrong(0, 0);
            late.run(1);
            DUE.equal("as long as it sees 0", late.look(0, 0), Wire.WAITING);
        }
        late.run(1);
        DUE.equal("a 1 at last", late.look(0, 0), Wire.DELIMITER);
        DUE.equal("that is no error", late.look(0, 6), 1);
    }

    /** The other one has nothing to send, so that the bus is at rest whatever node 0 sees. */
    private static BitBus inDelimiter() {
        BitBus bus = new BitBus(2);
        Bring.senderError(bus);
        bus.run(FLAGS + 1);
        return bus;
    }

    private static void delimiter() {
        BitBus bus = inDelimiter();
        modeIs(bus, 0, 6, Wire.DELIMITER);
        DUE.equal("after seven", bus.look(0, 0), Wire.PAUSE);
        DUE.equal("levels", bus.levels() & 0xff, 0xff);
    }

    private static void delimiterBroken() {
        for (int ones = 0; ones <= 6; ones++) {
            BitBus bus = inDelimiter();
            bus.run(ones);
            DUE.equal("after " + ones, bus.look(0, 0), Wire.DELIMITER);
            bus.wrong(0, 0);
            bus.run(1);
            DUE.equal("a 0 after " + ones, bus.look(0, 0), Wire.WAITING);
            DUE.equal("no error", bus.look(0, 6), 1);
            bus.run(1);
            DUE.equal("a 1 again", bus.look(0, 0), Wire.DELIMITER);
            bus.run(6);
            DUE.equal("counted anew, six", bus.look(0, 0), Wire.DELIMITER);
            bus.run(1);
            DUE.equal("counted anew, seven", bus.look(0, 0), Wire.PAUSE);
        }
        BitBus behind = inDelimiter();
        behind.run(7);
        behind.wrong(0, 0);
        behind.run(1);
        DUE.equal("a 0 behind the seventh is one of the pause", behind.look(0, 0), Wire.READING);
    }

    private static BitBus inPause() {
        BitBus bus = new BitBus(2);
        bus.send(0, ID, false, 0, 0);
        bus.send(0, ID, false, 0, 0);
        bus.run(Bring.frameBits());
        return bus;
    }

    private static void pause() {
        BitBus bus = inPause();
        modeIs(bus, 0, 2, Wire.PAUSE);
        DUE.equal("after three", bus.look(0, 0), Wire.IDLE);
        DUE.equal("of the reader", bus.look(1, 0), Wire.IDLE);
        DUE.equal("it drives 1, with a frame in the queue,", bus.levels() & 0xf, 0xf);
        bus.run(1);
        DUE.equal("then its next frame begins", bus.look(0, 0), Wire.SENDING);
        DUE.equal("with a 0", bus.levels() & 1, 0);
    }

    private static void pauseBroken() {
        for (int ones = 0; ones <= 2; ones++) {
            for (int node = 0; node < 2; node++) {
                BitBus bus = inPause();
                bus.run(ones);
                bus.wrong(node, 0);
                bus.run(1);
                DUE.equal("a 0 after " + ones + ", of " + node, bus.look(node, 0), Wire.READING);
                DUE.equal("is the first bit", bus.look(node, 7), 1);
                DUE.equal("and no error", bus.look(node, 6), 0);
            }
        }
        BitBus behind = inPause();
        behind.run(3);
        behind.wrong(0, 0);
        behind.run(1);
        DUE.equal("behind the third it drives its own first bit", behind.look(0, 6), 1);
    }

    private static void pauseBehindAnError() {
        BitBus bus = inDelimiter();
        bus.run(7);
        modeIs(bus, 0, 2, Wire.PAUSE);
        DUE.equal("after three", bus.look(0, 0), Wire.IDLE);
        bus.run(1);
        DUE.equal("it sends again", bus.look(0, 0), Wire.SENDING);
    }

    private static void off() {
        BitBus bus = unanswered(8);
        DUE.equal("both are off", bus.look(0, 0) + 10 * bus.look(1, 0), 11 * Wire.OFF);
        // The slot, in which the error was, had been seen as 1 too: if that one counted, these were 40.
        DUE.equal("39 levels", Wire.next(bus, 39), Wire.ones(39));
        DUE.equal("after 39", bus.look(0, 0) + 10 * bus.look(1, 0), 11 * Wire.OFF);
        bus.run(1);
        DUE.equal("after 40", bus.look(0, 0) + bus.look(1, 0), Wire.IDLE);
    }

    /** Node 0 is off, and all others, which had an error of their own, are in the first bit time behind their flags. */
    private static BitBus firstOneIsOff(int nodes) {
        BitBus bus = new BitBus(nodes);
        Bring.tec(bus, 56);
        Bring.senderError(bus);
        DUE.equal("off", bus.look(0, 0), Wire.OFF);
        DUE.equal("six 1 that they read, then their flags", Wire.next(bus, 12), Wire.ones(6) + Wire.zeros(6));
        return bus;
    }

    private static void isIdleAfter(BitBus bus, int bits, String what) {
        bus.run(bits - 1);
        DUE.equal(what + ", one bit before", bus.look(0, 0), Wire.OFF);
        bus.run(1);
        DUE.equal(what, bus.look(0, 0), Wire.IDLE);
    }

    private static void offInARow() {
        isIdleAfter(firstOneIsOff(2), 40, "the six 1 before the flags do not count");
        for (int ones : new int[] {0, 1, 20, 38, 39}) {
            BitBus bus = firstOneIsOff(2);
            bus.wrong(0, ones);
            bus.run(ones + 1);
            DUE.equal("a 0 after " + ones, bus.look(0, 0), Wire.OFF);
            isIdleAfter(bus, 40, "40 behind a 0 after " + ones);
        }
    }

    private static void offCounts() {
        BitBus bus = new BitBus(2);
        Bring.rec(bus, 5);
        Bring.tec(bus, 56);
        Bring.senderError(bus);
        DUE.equal("TEC and REC before", bus.look(0, 1) + 100 * bus.look(0, 2), 564);
        bus.run(6 + 6 + 39);
        DUE.equal("still off", bus.look(0, 0), Wire.OFF);
        DUE.equal("TEC and REC still", bus.look(0, 1) + 100 * bus.look(0, 2), 564);
        DUE.equal("PASSIVE still", bus.look(0, 3), 1);
        bus.run(1);
        DUE.equal("idle", bus.look(0, 0), Wire.IDLE);
        DUE.equal("TEC", bus.look(0, 1), 0);
        DUE.equal("REC", bus.look(0, 2), 0);
        DUE.equal("PASSIVE", bus.look(0, 3), 0);
        DUE.equal("errors", bus.look(0, 6), 13);
        DUE.equal("of the other REC stays", bus.look(1, 2), 13);
    }

    private static void offTakesNoPart() {
        BitBus busy = firstOneIsOff(3);
        busy.run(11);
        for (int i = 0; i < 4; i++) {
            busy.send(1, ID, false, 0, 0);
        }
        for (int i = 0; i < 4; i++) {
            busy.run(20);
            DUE.equal("it does not read", busy.look(0, 0) + 10 * busy.look(0, 7), Wire.OFF);
            DUE.equal("a frame goes by", busy.run(Bring.frameBits() - 20), 1);
            busy.run(i < 3 ? 3 : 0);
        }
        DUE.equal("it got none", busy.look(0, 5), 0);
        DUE.equal("another did", busy.look(2, 5), 4);
        // The 1 behind the slot and seven have been seen.
        isIdleAfter(busy, 32, "40 behind the last 0, the slot's");
        BitBus alone = firstOneIsOff(2);
        alone.run(11);
        alone.send(1, ID, false, 0, 0);
        DUE.equal("it says no 0 in the slot", Wire.next(alone, BITS.length() + 2), BITS + "11");
        DUE.equal("so the sender has an error", alone.look(1, 1), 8);
    }

    private static void offKeepsItsFrames() {
        BitBus bus = firstOneIsOff(2);
        DUE.equal("the frame stays, and others may come", bus.send(0, ID + 1, false, 0, 0), 2);
        DUE.equal("it drives 1", Wire.next(bus, 40), Wire.ones(40));
        bus.run(1);
        DUE.equal("it sends as soon as it is IDLE", bus.look(0, 0), Wire.SENDING);
        DUE.equal("both go", bus.run(200), 2);
        DUE.equal("the first one first", bus.got(1, 0, 0), ID);
        DUE.equal("then the second", bus.got(1, 1, 0), ID + 1);
    }
}
