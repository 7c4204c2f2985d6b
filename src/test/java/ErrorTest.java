/** Terms: what is an ERROR and what not, and when a frame is GOT and SENT. */
public final class ErrorTest {
    private static final Due DUE = new Due();
    private static final int ID = 0x555;
    private static final String BITS = Wire.stuffed(Wire.checked(Wire.body(ID, false, 1, 0x5a)));
    private static final int BEFORE_SLOT = BITS.length();
    private static final int SLOT = BEFORE_SLOT + 1;
    private static final int BEHIND_SLOT = BEFORE_SLOT + 2;
    private static final int END = BEFORE_SLOT + 3;
    private static final int LAST = END + 6;

    public static void main(String[] args) {
        DUE.hold("seeing the same bit a sixth time is an ERROR (of a reader)", ErrorTest::sixthForAReader);
        DUE.hold("seeing the same bit a sixth time is an ERROR (of a sender)", ErrorTest::sixthForASender);
        DUE.hold("a stuffed one that is seen as it should be is no error", ErrorTest::stuffedOnesAreFine);
        DUE.hold("a stuffed bit is due by what it has seen: where none is on the bus", ErrorTest::dueForOneAlone);
        DUE.hold("a stuffed bit is due by what it has seen: not where one is on the bus", ErrorTest::dueForOthers);
        DUE.hold("a stuffed bit is due by what a sender that gave way has seen", ErrorTest::dueForOneThatGaveWay);
        DUE.hold("The first bit seen as 1 is an ERROR (of a sender)", ErrorTest::firstBit);
        DUE.hold("If it sees 0 without having driven it, it is READING", ErrorTest::firstBitOfAReader);
        DUE.hold("A reader drives 1, but in the SLOT 0, if the check was right", ErrorTest::slotOfAReader);
        DUE.hold("In the SLOT a sender that sees 1 has an ERROR", ErrorTest::slotOfASender);
        DUE.hold("The 1 before the SLOT, seen as 0, is an ERROR", () -> oneSeenAsZero(BEFORE_SLOT));
        DUE.hold("The 1 behind the SLOT, seen as 0, is an ERROR", () -> oneSeenAsZero(BEHIND_SLOT));
        DUE.hold("those of the END, seen as 0, are an ERROR", ErrorTest::end);
        DUE.hold("but not the last one of the END for a reader", ErrorTest::lastForAReader);
        DUE.hold("the last one of the END is an ERROR for a sender", ErrorTest::lastForASender);
        DUE.hold("A reader whose check was wrong has an ERROR at the bit behind the SLOT", ErrorTest::wrongCheck);
        DUE.hold("whatever that is", ErrorTest::wrongCheckAndZero);
        DUE.hold("the check was wrong: each of the bits that it is of, and its own", ErrorTest::eachBitOfTheCheck);
        DUE.hold("the check was wrong: all other ones but the right one", ErrorTest::eachOtherCheck);
        DUE.hold("When the sixth bit of the END is seen without an error, a reader has GOT the frame", ErrorTest::got);
        DUE.hold("With the seventh a sender has SENT it", ErrorTest::sent);
        DUE.end();
    }

    private static BitBus busWithFrame(int nodes) {
        BitBus bus = new BitBus(nodes);
        bus.send(0, ID, false, 1, 0x5a);
        return bus;
    }

    private static BitBus afterWrong(int nodes, int node, int bitTime) {
        BitBus bus = busWithFrame(nodes);
        bus.wrong(node, bitTime);
        bus.run(bitTime);
        DUE.equal("no error before " + (bitTime - SLOT), bus.look(node, 6), 0);
        bus.run(1);
        return bus;
    }

    private static void readerFails(String what, BitBus bus, int node) {
        DUE.equal(what + ", mode", bus.look(node, 0), Wire.FLAG);
        DUE.equal(what + ", errors", bus.look(node, 6), 1);
        DUE.equal(what + ", REC", bus.look(node, 2), 1);
        DUE.equal(what + ", TEC", bus.look(node, 1), 0);
        DUE.equal(what + ", inbox", bus.look(node, 5), 0);
    }

    private static void senderFails(String what, BitBus bus) {
        DUE.equal(what + ", mode", bus.look(0, 0), Wire.FLAG);
        DUE.equal(what + ", errors", bus.look(0, 6), 1);
        DUE.equal(what + ", TEC", bus.look(0, 1), 8);
        DUE.equal(what + ", REC", bus.look(0, 2), 0);
        DUE.equal(what + ", queue", bus.look(0, 4), 1);
    }

    private static void sixthForAReader() {
        BitBus ones = new BitBus(2);
        ones.wrong(1, 0);
        ones.run(6);
        DUE.equal("a 0 and five 1", ones.look(1, 7), 6);
        ones.run(1);
        readerFails("a sixth 1", ones, 1);
        ones.run(5);
        DUE.equal("five 0 of its flag, seen by the other", ones.look(0, 7), 5);
        ones.run(1);
        readerFails("a sixth 0", ones, 0);
        BitBus stuffed = new BitBus(2);
        stuffed.send(0, 1, false, 0, 0);
        stuffed.wrong(1, 5);
        stuffed.run(5);
        DUE.equal("five 0 of a frame", stuffed.look(1, 7), 5);
        stuffed.run(1);
        readerFails("the stuffed 1 seen as 0", stuffed, 1);
    }

    private static void sixthForASender() {
        BitBus zeros = new BitBus(2);
        zeros.send(0, 1, false, 0, 0);
        zeros.wrong(0, 5);
        zeros.run(5);
        DUE.equal("five 0", zeros.look(0, 7), 5);
        zeros.run(1);
        senderFails("the stuffed 1 seen as 0", zeros);
        BitBus ones = new BitBus(2);
        ones.send(0, 0x7ff, false, 0, 0);
        ones.wrong(0, 6);
        ones.run(6);
        DUE.equal("a 0 and five 1", ones.look(0, 7), 6);
        ones.run(1);
        senderFails("the stuffed 0 seen as 1", ones);
        // Node 1 fails at the first stuffed 1; its flag and five 0 of the frame are the same, up to the next one.
        BitBus flag = new BitBus(2);
        flag.send(0, 1, false, 0, 0);
        flag.wrong(1, 5);
        flag.run(11);
        DUE.equal("five more 0", flag.look(0, 7), 10);
        flag.run(1);
        senderFails("another's flag in place of the stuffed 1", flag);
    }

    private static void stuffedOnesAreFine() {
        for (int identifier : new int[] {0, 1, 0x7ff, 0x078, 0x7c2}) {
            BitBus bus = new BitBus(3);
            bus.send(0, identifier, false, 8, identifier);
            DUE.equal("sent " + identifier, bus.run(200), 1);
            DUE.equal("errors", bus.look(0, 6) + bus.look(1, 6) + bus.look(2, 6), 0);
        }
    }

    /** Four 1 and a 0 that node 1 sees as a fifth 1: what comes next is a stuffed bit for it alone. */
    private static void dueForOneAlone() {
        BitBus zero = new BitBus(3);
        zero.send(0, 0b11110010101, false, 0, 0);
        zero.wrong(1, 5);
        DUE.equal("levels", Wire.next(zero, 7), "0" + "1111" + "00");
        DUE.equal("a 0 is taken out as a stuffed one", zero.look(1, 7), 6);
        DUE.equal("and is no error", zero.look(1, 6), 0);
        DUE.equal("bits of the sender", zero.look(0, 7), 7);
        DUE.equal("bits of the other reader", zero.look(2, 7), 7);
        BitBus one = new BitBus(3);
        one.send(0, 0b11110101010, false, 0, 0);
        one.wrong(1, 5);
        DUE.equal("levels", Wire.next(one, 7), "0" + "1111" + "01");
        readerFails("a 1 is the sixth", one, 1);
        DUE.equal("but not that of the others", one.look(0, 6) + one.look(2, 6), 0);
    }

    /** Five 0, of which node 1 sees the third as 1: the stuffed 1 behind them is one of the frame for it. */
    private static void dueForOthers() {
        BitBus bus = new BitBus(3);
        bus.send(0, 0b00001010101, false, 0, 0);
        bus.wrong(1, 2);
        DUE.equal("levels", Wire.next(bus, 6), "00000" + "1");
        DUE.equal("bits seen", bus.look(1, 7), 6);
        DUE.equal("no error", bus.look(1, 6), 0);
        DUE.equal("bits of the sender", bus.look(0, 7), 5);
        DUE.equal("bits of the other reader", bus.look(2, 7), 5);
    }

    /** Node 0 sees its 1 behind four 0 as 0 and gives way; nobody sends then, and the bus is at 1. */
    private static void dueForOneThatGaveWay() {
        BitBus bus = new BitBus(2);
        bus.send(0, 0b00010101010, false, 0, 0);
        bus.wrong(0, 4);
        bus.run(5);
        DUE.equal("gave way", bus.look(0, 0), Wire.READING);
        DUE.equal("five 0", bus.look(0, 7), 5);
        bus.run(1);
        DUE.equal("a stuffed 1", bus.look(0, 7), 5);
        DUE.equal("a second 1 for the other one", bus.look(1, 7), 6);
        bus.run(4);
        DUE.equal("the stuffed 1 counts: five of them", bus.look(0, 7), 9);
        DUE.equal("sixth 1 of the other one, whose first was the one that was sent", bus.look(1, 6), 1);
        DUE.equal("not yet that of node 0", bus.look(0, 6), 0);
    }

    private static void firstBit() {
        senderFails("seen as 1", afterWrong(2, 0, 0));
        BitBus right = busWithFrame(2);
        right.run(1);
        DUE.equal("seen as 0", right.look(0, 0) + 10 * right.look(0, 6), Wire.SENDING);
    }

    private static void firstBitOfAReader() {
        BitBus missed = afterWrong(3, 1, 0);
        DUE.equal("seen as 1 it is none", missed.look(1, 0), Wire.IDLE);
        DUE.equal("no error of a reader", missed.look(1, 6), 0);
        DUE.equal("the other reader", missed.look(2, 0), Wire.READING);
        // 0 1 0 1 ..: what it takes for the first bit is the second 0, two bits later.
        missed.run(2);
        DUE.equal("the next 0 is the first bit", missed.look(1, 0), Wire.READING);
        DUE.equal("one bit", missed.look(1, 7), 1);
        DUE.equal("three of the other", missed.look(2, 7), 3);
    }

    private static void slotOfAReader() {
        BitBus bus = busWithFrame(2);
        String wire = BITS + "1" + "0" + "1111" + "1111" + "111";
        DUE.equal("0 in the slot, 1 else", Wire.next(bus, wire.length()), wire);
        for (int node = 1; node < 3; node++) {
            BitBus seenAsOne = afterWrong(3, node, SLOT);
            DUE.equal("a reader that sees a 1 there", seenAsOne.look(node, 0), Wire.READING);
            DUE.equal("has no error", seenAsOne.look(node, 6), 0);
            DUE.equal("sent", seenAsOne.run(8), 1);
            DUE.equal("and got", seenAsOne.look(node, 5), 1);
        }
    }

    private static void slotOfASender() {
        senderFails("its reader's 0 seen as 1", afterWrong(2, 0, SLOT));
        BitBus nobody = new BitBus(2);
        nobody.send(0, ID, false, 1, 0x5a);
        nobody.send(1, ID, false, 1, 0x5a);
        nobody.run(SLOT);
        DUE.equal("no error before it", nobody.look(0, 6) + nobody.look(1, 6), 0);
        nobody.run(1);
        senderFails("two that send the same, and no reader", nobody);
        BitBus right = busWithFrame(2);
        right.run(SLOT + 1);
        DUE.equal("a 0 is no error, though it drove 1", right.look(0, 0) + 10 * right.look(0, 6), Wire.SENDING);
    }

    private static void oneSeenAsZero(int at) {
        readerFails("reader", afterWrong(3, 1, at), 1);
        senderFails("sender", afterWrong(2, 0, at));
        BitBus right = busWithFrame(2);
        right.run(at + 1);
        DUE.equal("a 1 is none", right.look(0, 6) + right.look(1, 6), 0);
    }

    private static void end() {
        for (int at = END; at < LAST; at++) {
            oneSeenAsZero(at);
        }
    }

    private static void lastForAReader() {
        readerFails("the last but one", afterWrong(3, 1, LAST - 1), 1);
        BitBus bus = afterWrong(3, 1, LAST);
        DUE.equal("mode", bus.look(1, 0), Wire.PAUSE);
        DUE.equal("errors", bus.look(1, 6) + bus.look(1, 2), 0);
        DUE.equal("inbox", bus.look(1, 5), 1);
        bus.run(2);
        DUE.equal("a pause as any other", bus.look(1, 0), Wire.PAUSE);
        bus.run(1);
        DUE.equal("and idle", bus.look(1, 0), Wire.IDLE);
    }

    private static void lastForASender() {
        BitBus bus = afterWrong(2, 0, LAST);
        senderFails("sender", bus);
        DUE.equal("reader is in the pause", bus.look(1, 0), Wire.PAUSE);
        DUE.equal("and has the frame", bus.look(1, 5), 1);
        // The flag begins in the reader's pause: a first bit, and the sixth 0 is the reader's error.
        DUE.equal("both flags", Wire.next(bus, 12), Wire.zeros(12));
        DUE.equal("reader's error", bus.look(1, 2), 1);
        DUE.equal("sent at last", bus.run(150), 1);
        DUE.equal("got twice", bus.look(1, 5), 2);
    }

    /** A byte's bit that is seen wrongly between others, so that nothing about stuffed bits changes. */
    private static int bitOfByte() {
        return BITS.indexOf("01011010") + 3;
    }

    private static void wrongCheck() {
        BitBus bus = busWithFrame(3);
        bus.wrong(1, bitOfByte());
        bus.run(SLOT + 1);
        DUE.equal("another one says 0 in the slot", bus.levels() & 1, 0);
        DUE.equal("no error yet", bus.look(1, 6), 0);
        bus.run(1);
        readerFails("a 1 behind the slot", bus, 1);
        DUE.equal("sender goes on", bus.look(0, 0), Wire.SENDING);
        bus.run(1);
        DUE.equal("sender sees the flag", bus.look(0, 1), 8);
        DUE.equal("other reader sees the flag", bus.look(2, 2), 1);
        BitBus alone = busWithFrame(2);
        alone.wrong(1, bitOfByte());
        alone.run(SLOT + 1);
        DUE.equal("it does not say 0 in the slot", alone.levels() & 1, 1);
        senderFails("nobody says 0 in the slot", alone);
        DUE.equal("reader reads on", alone.look(1, 0), Wire.READING);
    }

    private static void wrongCheckAndZero() {
        BitBus bus = busWithFrame(3);
        bus.wrong(1, bitOfByte());
        bus.run(BEHIND_SLOT);
        bus.wrong(1, 0);
        bus.run(1);
        readerFails("a 0 behind the slot is the same one error", bus, 1);
        BitBus before = busWithFrame(3);
        before.wrong(1, bitOfByte());
        before.run(BEFORE_SLOT);
        before.wrong(1, 0);
        before.run(1);
        readerFails("a 0 before the slot is one by itself", before, 1);
    }

    /** For each bit frames in which it can be seen wrongly and still nothing about stuffed bits changes. */
    private static void eachBitOfTheCheck() {
        // Behind the four bits of the length, of which another one makes another frame: the byte and the check.
        for (int place = 19; place < 19 + 8 + 15; place++) {
            int tried = 0;
            for (int identifier = 0; identifier < 2048 && tried < 5; identifier++) {
                String bits = Wire.checked(Wire.body(identifier, false, 1, 0x5a));
                if (staysStuffed(bits, place)) {
                    tried++;
                    failsBehindTheSlot(identifier, bits, place);
                }
            }
            DUE.equal("frames for place " + place, tried, 5);
        }
    }

    private static boolean staysStuffed(String bits, int place) {
        String other = bits.substring(0, place) + (bits.charAt(place) == '1' ? "0" : "1") + bits.substring(place + 1);
        String levels = Wire.stuffed(bits);
        String seen = Wire.stuffed(other);
        int differ = 0;
        for (int i = 0; i < levels.length() && levels.length() == seen.length(); i++) {
            differ += levels.charAt(i) != seen.charAt(i) ? 1 : 0;
        }
        return differ == 1;
    }

    private static void failsBehindTheSlot(int identifier, String bits, int place) {
        String what = "frame " + identifier + " wrong at " + place;
        BitBus bus = new BitBus(2);
        bus.send(0, identifier, false, 1, 0x5a);
        bus.wrong(1, Wire.stuffed(bits.substring(0, place)).length());
        bus.run(Wire.stuffed(bits).length() + 2);
        DUE.equal(what + ", no 0 in the slot", bus.levels() & 1, 1);
        DUE.equal(what + ", no error yet", bus.look(1, 6), 0);
        bus.run(1);
        DUE.equal(what + ", error behind the slot", bus.look(1, 6) + 10 * bus.look(1, 2), 11);
    }

    /** A reader is shown each of the 2^15 checks behind the same body, if there is a frame of the same size for it. */
    private static void eachOtherCheck() {
        int tried = 0;
        for (int other = 0; other < 1 << 15; other++) {
            for (int identifier = 0x555; identifier < 0x600; identifier++) {
                String body = Wire.body(identifier, false, 0, 0);
                String levels = Wire.stuffed(Wire.checked(body));
                String seen = Wire.stuffed(body + Wire.number(Wire.checkOf(body) ^ other, 15));
                if (levels.length() == seen.length()) {
                    tried++;
                    isAnswered(identifier, levels, seen, other == 0);
                    break;
                }
            }
        }
        DUE.equal("checks", tried, 1 << 15);
    }

    private static void isAnswered(int identifier, String levels, String seen, boolean right) {
        BitBus bus = new BitBus(2);
        bus.send(0, identifier, false, 0, 0);
        Wire.show(bus, 1, levels, seen);
        bus.run(2);
        DUE.equal("slot of " + identifier + " seen as " + seen, bus.levels() & 1, right ? 0 : 1);
        bus.run(1);
        DUE.equal("errors of " + identifier + " seen as " + seen, bus.look(1, 6), right ? 0 : 1);
    }

    private static void got() {
        BitBus bus = busWithFrame(3);
        bus.run(END + 5);
        DUE.equal("five bits of the end", bus.look(1, 5) + bus.look(2, 5), 0);
        bus.run(1);
        DUE.equal("six", bus.look(1, 5) + bus.look(2, 5), 2);
        DUE.equal("still reading", bus.look(1, 0), Wire.READING);
        bus.run(1);
        DUE.equal("seven", bus.look(1, 5) + bus.look(2, 5), 2);
        DUE.equal("in the pause", bus.look(1, 0), Wire.PAUSE);
        DUE.equal("not the sender", bus.look(0, 5), 0);
        DUE.equal("not if the sixth is an error", afterWrong(3, 1, END + 5).look(1, 5), 0);
        DUE.equal("of a sender that fails with the seventh", afterWrong(3, 0, LAST).look(1, 5), 1);
    }

    private static void sent() {
        BitBus bus = busWithFrame(2);
        DUE.equal("six bits of the end", bus.run(LAST), 0);
        DUE.equal("it is in the queue", bus.look(0, 4), 1);
        DUE.equal("still sending", bus.look(0, 0), Wire.SENDING);
        DUE.equal("seven", bus.run(1), 1);
        DUE.equal("it is not in the queue", bus.look(0, 4), 0);
        DUE.equal("in the pause", bus.look(0, 0), Wire.PAUSE);
        BitBus failed = busWithFrame(2);
        failed.wrong(0, LAST);
        DUE.equal("not if the seventh is an error", failed.run(LAST + 1), 0);
    }
}
