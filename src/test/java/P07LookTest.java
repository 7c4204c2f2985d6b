/** Promise 7: look. */
public final class P07LookTest {
    private static final Due DUE = new Due();

    public static void main(String[] args) {
        DUE.hold("what 0 its mode, 0 IDLE .. 7 OFF as listed", P07LookTest::modes);
        DUE.hold("1 TEC", P07LookTest::tec);
        DUE.hold("2 REC", P07LookTest::rec);
        DUE.hold("3 whether it is PASSIVE, 1 or 0", P07LookTest::passive);
        DUE.hold("4 how many frames its queue has", P07LookTest::queue);
        DUE.hold("5 its inbox", P07LookTest::inbox);
        DUE.hold("6 how many errors it had so far", P07LookTest::errors);
        DUE.hold("7 how many bits of the frame (stuffed ones aside) it has seen", P07LookTest::bitsOfAFrame);
        DUE.hold("7, from the first bit to the last", P07LookTest::firstAndLastBits);
        DUE.hold("7, if it is SENDING or READING, else 0", P07LookTest::noBitsElse);
        DUE.hold("IllegalArgumentException: no node", P07LookTest::noNode);
        DUE.hold("IllegalArgumentException: no what", P07LookTest::noWhat);
        DUE.hold("it changes nothing", P07LookTest::changesNothing);
        DUE.end();
    }

    private static void modes() {
        BitBus bus = new BitBus(2);
        bus.send(0, 0x555, false, 0, 0);
        DUE.equal("IDLE", bus.look(0, 0), 0);
        bus.run(1);
        DUE.equal("SENDING", bus.look(0, 0), 1);
        DUE.equal("READING", bus.look(1, 0), 2);
        bus.run(Wire.frame(0x555, false, 0, 0).length() - 1);
        DUE.equal("PAUSE", bus.look(0, 0), 6);
        bus.run(3);
        Bring.senderError(bus);
        DUE.equal("FLAG", bus.look(0, 0), 3);
        bus.run(6);
        DUE.equal("WAITING", bus.look(0, 0), 4);
        bus.run(6);
        DUE.equal("DELIMITER", bus.look(0, 0), 5);
        BitBus off = new BitBus(2);
        Bring.tec(off, 56);
        Bring.senderError(off);
        DUE.equal("OFF", off.look(0, 0), 7);
    }

    private static void tec() {
        BitBus bus = new BitBus(2);
        DUE.equal("at first", bus.look(0, 1), 0);
        Bring.senderError(bus);
        DUE.equal("after an error of the sender", bus.look(0, 1), 8);
        DUE.equal("of another node", bus.look(1, 1), 0);
    }

    private static void rec() {
        BitBus bus = new BitBus(2);
        DUE.equal("at first", bus.look(1, 2), 0);
        Bring.readerError(bus);
        DUE.equal("after an error of a reader", bus.look(1, 2), 1);
        DUE.equal("of another node", bus.look(0, 2), 0);
    }

    private static void passive() {
        BitBus bus = new BitBus(2);
        DUE.equal("at first", bus.look(0, 3), 0);
        Bring.tec(bus, 24);
        DUE.equal("TEC 24", bus.look(0, 3), 0);
        Bring.senderError(bus);
        DUE.equal("TEC 32", bus.look(0, 3), 1);
        DUE.equal("of another node", bus.look(1, 3), 0);
    }

    private static void queue() {
        BitBus bus = new BitBus(2);
        for (int i = 0; i < 4; i++) {
            DUE.equal("queue", bus.look(1, 4), i);
            bus.send(1, 100, false, 0, 0);
        }
        DUE.equal("full", bus.look(1, 4), 4);
        DUE.equal("of another node", bus.look(0, 4), 0);
        bus.run(Wire.frame(100, false, 0, 0).length() - 1);
        DUE.equal("before the last bit of the first", bus.look(1, 4), 4);
        bus.run(1);
        DUE.equal("with the last bit", bus.look(1, 4), 3);
        bus.run(500);
        DUE.equal("empty", bus.look(1, 4), 0);
    }

    private static void inbox() {
        BitBus bus = new BitBus(2);
        for (int i = 1; i <= 7; i++) {
            bus.send(1, 100, false, 0, 0);
            bus.run(100);
            DUE.equal("inbox after " + i, bus.look(0, 5), Math.min(i, 6));
        }
        DUE.equal("of the sender", bus.look(1, 5), 0);
    }

    private static void errors() {
        BitBus bus = new BitBus(2);
        for (int i = 1; i <= 8; i++) {
            DUE.equal("before error " + i, bus.look(0, 6), i - 1);
            Bring.senderError(bus);
            DUE.equal("after error " + i, bus.look(0, 6), i);
            DUE.equal("the reader's before it", bus.look(1, 6), i - 1);
            Bring.rest(bus);
        }
        bus.run(200);
        DUE.equal("TEC is 0 again", bus.look(0, 1), 0);
        DUE.equal("so far: OFF and a frame that went well do not take them back", bus.look(0, 6), 8);
    }

    private static void bitsOfAFrame() {
        String bits = Wire.checked(Wire.body(0x555, false, 0, 0));
        int stuffed = Wire.stuffed(bits).length();
        BitBus bus = new BitBus(2);
        bus.send(0, 0x555, false, 0, 0);
        for (int i = 1; i <= stuffed; i++) {
            bus.run(1);
            DUE.equal("both saw as many at " + i, bus.look(0, 7), bus.look(1, 7));
            // 0 and 10101010101, then seven 0: the bit behind the fifth of them is the first stuffed one.
            if (i <= 19) {
                DUE.equal("bits at " + i, bus.look(1, 7), i <= 17 ? i : i - 1);
            }
        }
        DUE.equal("all but the stuffed ones", bus.look(0, 7), bits.length());
        for (int i = 1; i <= 9; i++) {
            bus.run(1);
            DUE.equal("bits behind the check " + i, bus.look(0, 7), bits.length() + i);
            DUE.equal("of the reader " + i, bus.look(1, 7), bits.length() + i);
        }
    }

    private static void firstAndLastBits() {
        for (boolean wide : new boolean[] {false, true}) {
            for (int length : new int[] {0, 8}) {
                int bits = Wire.checked(Wire.body(3, wide, length, 0)).length() + 10;
                BitBus bus = new BitBus(2);
                bus.send(0, 3, wide, length, 0);
                DUE.equal("before the first", bus.look(0, 7) + bus.look(1, 7), 0);
                bus.run(1);
                DUE.equal("the first", bus.look(0, 7) + bus.look(1, 7), 2);
                bus.run(Wire.frame(3, wide, length, 0).length() - 2);
                DUE.equal("all but the last", bus.look(0, 7), bits - 1);
                DUE.equal("all but the last, of the reader", bus.look(1, 7), bits - 1);
                bus.run(1);
                DUE.equal("behind the last", bus.look(0, 7) + bus.look(1, 7), 0);
            }
        }
    }

    private static void noBitsElse() {
        BitBus bus = new BitBus(2);
        bus.send(0, 0x555, false, 0, 0);
        bus.wrong(0, 0);
        for (int i = 1; i <= 23; i++) {
            bus.run(1);
            DUE.equal("in mode " + bus.look(0, 0), bus.look(0, 7), 0);
            DUE.equal("the reader's after " + i, bus.look(1, 7), i < 6 ? i : 0);
        }
        bus.run(1);
        DUE.equal("sending again", bus.look(0, 7), 1);
        BitBus off = new BitBus(2);
        Bring.tec(off, 56);
        Bring.senderError(off);
        DUE.equal("off", off.look(0, 7), 0);
    }

    private static void changesNothing() {
        for (int w = 0; w < 8; w++) {
            int what = w;
            for (int n = 0; n < 3; n++) {
                int node = n;
                new Refused(DUE, 3).asks("look(" + n + ", " + w + ")", bus -> bus.look(node, what));
            }
        }
    }

    private static void noNode() {
        for (int what = 0; what < 8; what++) {
            int fine = what;
            Refused.noNode(DUE, (bus, node) -> bus.look(node, fine));
        }
    }

    private static void noWhat() {
        Refused refused = new Refused(DUE, 3);
        for (int what : new int[] {-1, 8, 9, Integer.MIN_VALUE, Integer.MAX_VALUE}) {
            refused.badArgument("what " + what, bus -> bus.look(0, what));
            refused.badArgument("what " + what + " and no node", bus -> bus.look(3, what));
        }
    }
}
