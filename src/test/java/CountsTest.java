/** Terms: TEC and REC, and what depends on them. */
public final class CountsTest {
    private static final Due DUE = new Due();

    public static void main(String[] args) {
        DUE.hold("TEC is 8 more for a sender", CountsTest::eightMore);
        DUE.hold("REC 1 more for a reader", CountsTest::oneMore);
        DUE.hold("SENT: TEC is one less, if above 0", CountsTest::tecOneLess);
        DUE.hold("GOT: REC is one less, if it is above 0", CountsTest::recOneLess);
        DUE.hold("each count by what the node does itself", CountsTest::eachByItsOwn);
        DUE.hold("PASSIVE if TEC is 32 or more", CountsTest::passiveByTec);
        DUE.hold("PASSIVE if REC is 32 or more", CountsTest::passiveByRec);
        DUE.hold("TEC or REC, not both together", CountsTest::notTheSum);
        DUE.hold("If TEC is 64 or more, it is OFF; else in FLAG", CountsTest::offFrom64);
        DUE.hold("TEC alone makes it OFF, not REC", CountsTest::notOffByRec);
        DUE.hold("it drives 0, if it was not PASSIVE with the error counted (TEC)", CountsTest::flagByTec);
        DUE.hold("it drives 0, if it was not PASSIVE with the error counted (REC)", CountsTest::flagByRec);
        DUE.hold("a PASSIVE node sends and says 0 in the SLOT as others do", CountsTest::passiveOnesGoOn);
        DUE.end();
    }

    private static void eightMore() {
        BitBus bus = new BitBus(2);
        for (int tec = 8; tec <= 56; tec += 8) {
            Bring.senderError(bus);
            DUE.equal("TEC", bus.look(0, 1), tec);
            DUE.equal("REC", bus.look(0, 2), 0);
            Bring.rest(bus);
            DUE.equal("TEC at rest", bus.look(0, 1), tec);
            DUE.equal("both are at rest", bus.look(0, 0) + bus.look(1, 0), Wire.IDLE);
        }
    }

    private static void oneMore() {
        BitBus bus = new BitBus(2);
        for (int rec = 1; rec <= 20; rec++) {
            Bring.readerError(bus);
            DUE.equal("REC", bus.look(1, 2), rec);
            DUE.equal("TEC", bus.look(1, 1), 0);
            bus.run(33);
            DUE.equal("REC at rest", bus.look(1, 2), rec);
            DUE.equal("of the other, which sees the flag,", bus.look(0, 2), rec);
        }
    }

    private static void tecOneLess() {
        BitBus bus = new BitBus(2);
        Bring.frame(bus);
        DUE.equal("0 stays 0", bus.look(0, 1), 0);
        Bring.tec(bus, 8);
        bus.run(Bring.frameBits() - 1);
        DUE.equal("not before the last bit", bus.look(0, 1), 8);
        bus.run(1);
        DUE.equal("with it", bus.look(0, 1), 7);
        bus.run(3);
        for (int tec = 6; tec >= 0; tec--) {
            Bring.frame(bus);
            DUE.equal("one less", bus.look(0, 1), tec);
        }
        Bring.frame(bus);
        DUE.equal("never below 0", bus.look(0, 1), 0);
    }

    private static void recOneLess() {
        BitBus bus = new BitBus(2);
        Bring.frame(bus);
        DUE.equal("0 stays 0", bus.look(1, 2), 0);
        Bring.rec(bus, 3);
        bus.send(0, Bring.IDENTIFIER, false, 0, 0);
        bus.run(Bring.frameBits() - 2);
        DUE.equal("not before the sixth bit of the end", bus.look(1, 2), 3);
        bus.run(1);
        DUE.equal("with it", bus.look(1, 2), 2);
        bus.run(4);
        DUE.equal("and once", bus.look(1, 2), 2);
        bus.filter(1, 1, 0);
        Bring.frame(bus);
        DUE.equal("also if the filter leaves it out", bus.look(1, 2), 1);
        DUE.equal("it is left out", bus.look(1, 5), 2);
        Bring.frame(bus);
        DUE.equal("0", bus.look(1, 2), 0);
        Bring.frame(bus);
        DUE.equal("never below 0", bus.look(1, 2), 0);
    }

    private static void eachByItsOwn() {
        BitBus bus = new BitBus(2);
        Bring.rec(bus, 5);
        Bring.tec(bus, 8);
        DUE.equal("an error as a sender leaves REC", bus.look(0, 2), 5);
        Bring.goThrough(bus);
        DUE.equal("a frame sent leaves REC", bus.look(0, 2), 5);
        DUE.equal("and not TEC", bus.look(0, 1), 7);
        bus.send(1, Bring.IDENTIFIER, false, 0, 0);
        Bring.goThrough(bus);
        DUE.equal("a frame got leaves TEC", bus.look(0, 1), 7);
        DUE.equal("and not REC", bus.look(0, 2), 4);
        Bring.readerError(bus);
        bus.run(33);
        DUE.equal("an error as a reader leaves TEC", bus.look(0, 1), 7);
        DUE.equal("and not REC", bus.look(0, 2), 5);
    }

    private static void passiveByTec() {
        BitBus bus = new BitBus(2);
        for (int tec = 8; tec <= 40; tec += 8) {
            Bring.tec(bus, tec);
            DUE.equal("TEC", bus.look(0, 1), tec);
            DUE.equal("PASSIVE, TEC " + tec, bus.look(0, 3), tec >= 32 ? 1 : 0);
        }
        Bring.goThrough(bus);
        for (int tec = 39; tec >= 30; tec--) {
            DUE.equal("TEC", bus.look(0, 1), tec);
            DUE.equal("PASSIVE, TEC " + tec, bus.look(0, 3), tec >= 32 ? 1 : 0);
            Bring.frame(bus);
        }
    }

    private static void passiveByRec() {
        BitBus bus = new BitBus(2);
        for (int rec = 30; rec <= 34; rec++) {
            Bring.rec(bus, rec);
            DUE.equal("REC", bus.look(1, 2), rec);
            DUE.equal("PASSIVE, REC " + rec, bus.look(1, 3), rec >= 32 ? 1 : 0);
        }
        for (int rec = 33; rec >= 30; rec--) {
            Bring.frame(bus);
            DUE.equal("REC", bus.look(1, 2), rec);
            DUE.equal("PASSIVE, REC " + rec, bus.look(1, 3), rec >= 32 ? 1 : 0);
        }
    }

    private static void notTheSum() {
        BitBus bus = new BitBus(2);
        Bring.rec(bus, 25);
        Bring.tec(bus, 24);
        DUE.equal("TEC", bus.look(0, 1), 24);
        DUE.equal("REC", bus.look(0, 2), 25);
        DUE.equal("PASSIVE", bus.look(0, 3), 0);
    }

    private static void offFrom64() {
        BitBus bus = new BitBus(2);
        Bring.tec(bus, 48);
        Bring.senderError(bus);
        DUE.equal("TEC 56", bus.look(0, 1) + 100 * bus.look(0, 0), 56 + 100 * Wire.FLAG);
        Bring.rest(bus);
        Bring.senderError(bus);
        DUE.equal("TEC 64", bus.look(0, 1) + 100 * bus.look(0, 0), 64 + 100 * Wire.OFF);
        BitBus below = new BitBus(2);
        Bring.tec(below, 56);
        Bring.goThrough(below);
        DUE.equal("TEC 55", below.look(0, 1), 55);
        Bring.senderError(below);
        DUE.equal("TEC 63", below.look(0, 1) + 100 * below.look(0, 0), 63 + 100 * Wire.FLAG);
        Bring.rest(below);
        Bring.goThrough(below);
        for (int tec = 61; tec >= 57; tec--) {
            Bring.frame(below);
            DUE.equal("TEC", below.look(0, 1), tec);
        }
        Bring.senderError(below);
        DUE.equal("TEC 65", below.look(0, 1) + 100 * below.look(0, 0), 65 + 100 * Wire.OFF);
    }

    private static void notOffByRec() {
        BitBus bus = new BitBus(2);
        Bring.rec(bus, 62);
        for (int rec = 63; rec <= 66; rec++) {
            Bring.readerError(bus);
            DUE.equal("REC " + rec, bus.look(1, 2) + 100 * bus.look(1, 0), rec + 100 * Wire.FLAG);
            bus.run(33);
        }
    }

    private static void flagByTec() {
        BitBus passive = new BitBus(2);
        Bring.tec(passive, 24);
        Bring.senderError(passive);
        DUE.equal("TEC 32", passive.look(0, 1), 32);
        DUE.equal("a flag of 1", Wire.next(passive, 6), Wire.ones(6));
        BitBus active = new BitBus(2);
        Bring.tec(active, 24);
        Bring.goThrough(active);
        Bring.senderError(active);
        DUE.equal("TEC 31", active.look(0, 1), 31);
        DUE.equal("a flag of 0", Wire.next(active, 6), Wire.zeros(6));
    }

    private static void flagByRec() {
        BitBus bus = new BitBus(2);
        Bring.rec(bus, 30);
        Bring.readerError(bus);
        DUE.equal("REC 31", bus.look(1, 2), 31);
        DUE.equal("a flag of 0", Wire.next(bus, 6), Wire.zeros(6));
        bus.run(27);
        Bring.readerError(bus);
        DUE.equal("REC 32", bus.look(1, 2), 32);
        DUE.equal("a flag of 1", Wire.next(bus, 6), Wire.ones(6));
        DUE.equal("that the other does not see", bus.look(0, 2), 31);
        bus.run(27);
        Bring.frame(bus);
        Bring.frame(bus);
        Bring.readerError(bus);
        DUE.equal("REC 31 again", bus.look(1, 2), 31);
        DUE.equal("a flag of 0 again", Wire.next(bus, 6), Wire.zeros(6));
    }

    private static void passiveOnesGoOn() {
        BitBus bus = new BitBus(2);
        Bring.tec(bus, 40);
        Bring.goThrough(bus);
        Bring.rec(bus, 32);
        DUE.equal("both are passive", bus.look(0, 3) + bus.look(1, 3), 2);
        bus.send(0, Bring.IDENTIFIER, false, 0, 0);
        DUE.equal("sent", bus.run(Bring.frameBits()), 1);
        DUE.equal("got", bus.look(1, 5), 2);
    }
}
