/** Promise 8: got. */
public final class P08GotTest {
    private static final Due DUE = new Due();

    public static void main(String[] args) {
        tellsFrames();
        keepsSix();
        refuses();
        DUE.end();
    }

    private static void tellsFrames() {
        BitBus bus = new BitBus(2);
        bus.send(1, 0x7ff, false, 0, 0);
        bus.send(1, 0x1fffffff, true, 8, -1);
        bus.send(1, 0x12345, true, 3, 0x010203);
        bus.send(1, 0, false, 1, 0xff);
        bus.run(700);
        int[] identifiers = {0x7ff, 0x1fffffff, 0x12345, 0};
        int[] wide = {0, 1, 1, 0};
        int[] lengths = {0, 8, 3, 1};
        for (int i = 0; i < 4; i++) {
            DUE.equal("identifier " + i, bus.got(0, i, 0), identifiers[i]);
            DUE.equal("long " + i, bus.got(0, i, 1), wide[i]);
            DUE.equal("length " + i, bus.got(0, i, 2), lengths[i]);
        }
    }

    private static void keepsSix() {
        BitBus bus = new BitBus(2);
        for (int i = 0; i < 8; i++) {
            bus.send(0, 200 + i, false, 0, 0);
            DUE.equal("sent " + i, bus.run(100), 1);
        }
        DUE.equal("six and no more", bus.look(1, 5), 6);
        for (int i = 0; i < 6; i++) {
            DUE.equal("the oldest six, " + i, bus.got(1, i, 0), 200 + i);
        }
        bus.take(1);
        bus.send(0, 300, false, 0, 0);
        bus.run(100);
        DUE.equal("room again", bus.got(1, 5, 0), 300);
        for (int i = 0; i < 5; i++) {
            DUE.equal("the others moved up, " + i, bus.got(1, i, 0), 201 + i);
        }
    }

    private static void refuses() {
        BitBus bus = new BitBus(2);
        bus.send(0, 200, false, 0, 0);
        bus.run(100);
        String before = Wire.state(bus, 2);
        DUE.badArgument("node -1", () -> bus.got(-1, 0, 0));
        DUE.badArgument("node 2", () -> bus.got(2, 0, 0));
        DUE.badArgument("what -1", () -> bus.got(1, 0, -1));
        DUE.badArgument("what 3", () -> bus.got(1, 0, 3));
        DUE.badArgument("what 3 and no frame", () -> bus.got(1, 5, 3));
        DUE.badArgument("no node and no frame", () -> bus.got(2, 5, 0));
        DUE.badIndex("i -1", () -> bus.got(1, -1, 0));
        DUE.badIndex("i 1", () -> bus.got(1, 1, 0));
        DUE.badIndex("i 6", () -> bus.got(1, 6, 2));
        DUE.badIndex("empty inbox", () -> bus.got(0, 0, 1));
        DUE.equal("refused changes nothing", Wire.state(bus, 2), before);
    }
}
