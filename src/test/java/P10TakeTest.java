/** Promise 10: take. */
public final class P10TakeTest {
    private static final Due DUE = new Due();

    public static void main(String[] args) {
        BitBus bus = new BitBus(2);
        DUE.badIndex("empty at first", () -> bus.take(0));
        for (int i = 0; i < 4; i++) {
            bus.send(1, 10 + i, i == 2, 1, i);
        }
        bus.run(700);
        String before = Wire.state(bus, 2);
        DUE.badArgument("node -1", () -> bus.take(-1));
        DUE.badArgument("node 2", () -> bus.take(2));
        DUE.badIndex("the sender has none", () -> bus.take(1));
        DUE.equal("refused changes nothing", Wire.state(bus, 2), before);
        for (int i = 0; i < 4; i++) {
            DUE.equal("oldest identifier", bus.got(0, 0, 0), 10 + i);
            DUE.equal("oldest long", bus.got(0, 0, 1), i == 2 ? 1 : 0);
            DUE.equal("oldest bytes", bus.bytes(0, 0), i);
            DUE.equal("left", bus.take(0), 3 - i);
            DUE.equal("inbox", bus.look(0, 5), 3 - i);
        }
        DUE.badIndex("empty at last", () -> bus.take(0));
        DUE.end();
    }
}
