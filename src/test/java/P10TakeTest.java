/** Promise 10: take. */
public final class P10TakeTest {
    private static final Due DUE = new Due();

    public static void main(String[] args) {
        DUE.hold("The oldest frame is taken out of a node's inbox", P10TakeTest::takesTheOldest);
        DUE.hold("how many there are left", P10TakeTest::answersLeft);
        DUE.hold("a node's inbox, no other's", P10TakeTest::isOfOneNode);
        DUE.hold("IllegalArgumentException: no node", () -> Refused.noNode(DUE, (bus, node) -> bus.take(node)));
        DUE.hold("IndexOutOfBoundsException: there is none", P10TakeTest::thereIsNone);
        DUE.end();
    }

    private static BitBus withFrames(int frames) {
        BitBus bus = new BitBus(3);
        for (int i = 0; i < frames; i++) {
            bus.send(1, 10 + i, i == 2, 1, i);
            bus.run(120);
        }
        return bus;
    }

    private static void takesTheOldest() {
        BitBus bus = withFrames(6);
        for (int i = 0; i < 6; i++) {
            DUE.equal("oldest identifier", bus.got(0, 0, 0), 10 + i);
            DUE.equal("oldest long", bus.got(0, 0, 1), i == 2 ? 1 : 0);
            DUE.equal("oldest bytes", bus.bytes(0, 0), i);
            bus.take(0);
        }
    }

    private static void answersLeft() {
        for (int frames = 1; frames <= 6; frames++) {
            BitBus bus = withFrames(frames);
            for (int left = frames - 1; left >= 0; left--) {
                DUE.equal("left of " + frames, bus.take(0), left);
                DUE.equal("inbox", bus.look(0, 5), left);
            }
            DUE.badIndex("none left of " + frames, () -> bus.take(0));
        }
    }

    private static void isOfOneNode() {
        BitBus bus = withFrames(3);
        bus.take(0);
        DUE.equal("another's inbox", bus.look(2, 5), 3);
        DUE.equal("another's oldest", bus.got(2, 0, 0), 10);
        DUE.equal("another's take", bus.take(2), 2);
        DUE.equal("the first one's inbox", bus.look(0, 5), 2);
    }

    private static void thereIsNone() {
        BitBus bus = new BitBus(2);
        DUE.badIndex("at first", () -> bus.take(0));
        DUE.badIndex("again", () -> bus.take(0));
        bus.send(1, 7, false, 0, 0);
        bus.run(100);
        DUE.badIndex("the sender", () -> bus.take(1));
        DUE.equal("the first frame is at 0", bus.got(0, 0, 0), 7);
        DUE.equal("the only one", bus.take(0), 0);
        DUE.badIndex("at last", () -> bus.take(0));
        for (int nodes = 2; nodes <= 4; nodes++) {
            new Refused(DUE, nodes).badIndex("while much goes on", busy -> busy.take(0));
        }
    }
}
