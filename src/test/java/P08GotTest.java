/** Promise 8: got. */
public final class P08GotTest {
    private static final Due DUE = new Due();

    public static void main(String[] args) {
        DUE.hold("what 0 its identifier", P08GotTest::identifiers);
        DUE.hold("1 whether it is LONG, 1 or 0", P08GotTest::wide);
        DUE.hold("2 its length (0 .. 8)", P08GotTest::lengths);
        DUE.hold("frame i (from 0, the oldest)", P08GotTest::fromTheOldest);
        DUE.hold("IllegalArgumentException: no node",
                () -> Refused.noNode(DUE, (bus, node) -> bus.got(node, 0, 0)));
        DUE.hold("IllegalArgumentException: no what", P08GotTest::noWhat);
        DUE.hold("IndexOutOfBoundsException: no frame", P08GotTest::noFrame);
        DUE.hold("no frame, at each number of frames", P08GotTest::lastFrame);
        DUE.hold("a wrong argument goes before no frame", P08GotTest::wrongAndNoFrame);
        DUE.hold("it changes nothing", P08GotTest::changesNothing);
        DUE.end();
    }

    private static BitBus withOne(int identifier, boolean wide, int length) {
        BitBus bus = new BitBus(2);
        bus.send(1, identifier, wide, length, -1);
        bus.run(200);
        return bus;
    }

    private static void identifiers() {
        for (int identifier : new int[] {0, 1, 0x123, 0x7fe, 0x7ff}) {
            DUE.equal("short", withOne(identifier, false, 0).got(0, 0, 0), identifier);
        }
        for (int identifier : new int[] {0, 1, 0x3ffff, 0x40000, 0x12345678, 0x1ffffffe, 0x1fffffff}) {
            DUE.equal("long", withOne(identifier, true, 0).got(0, 0, 0), identifier);
        }
    }

    private static void wide() {
        DUE.equal("short", withOne(0x7ff, false, 0).got(0, 0, 1), 0);
        DUE.equal("long", withOne(0x7ff, true, 0).got(0, 0, 1), 1);
        DUE.equal("long of 0", withOne(0, true, 0).got(0, 0, 1), 1);
    }

    private static void lengths() {
        for (int length = 0; length <= 8; length++) {
            DUE.equal("short", withOne(5, false, length).got(0, 0, 2), length);
            DUE.equal("long", withOne(5, true, length).got(0, 0, 2), length);
        }
    }

    private static BitBus withFrames(int frames) {
        BitBus bus = new BitBus(2);
        for (int i = 0; i < frames; i++) {
            bus.send(0, 200 + i, i % 2 == 1, i, i);
            bus.run(200);
        }
        return bus;
    }

    private static void fromTheOldest() {
        BitBus bus = withFrames(6);
        for (int i = 0; i < 6; i++) {
            DUE.equal("identifier " + i, bus.got(1, i, 0), 200 + i);
            DUE.equal("long " + i, bus.got(1, i, 1), i % 2);
            DUE.equal("length " + i, bus.got(1, i, 2), i);
        }
        bus.take(1);
        for (int i = 0; i < 5; i++) {
            DUE.equal("identifier " + i + " behind a take", bus.got(1, i, 0), 201 + i);
            DUE.equal("long " + i + " behind a take", bus.got(1, i, 1), 1 - i % 2);
            DUE.equal("length " + i + " behind a take", bus.got(1, i, 2), 1 + i);
        }
    }

    private static void noWhat() {
        Refused refused = new Refused(DUE, 3);
        for (int what : new int[] {-1, 3, Integer.MIN_VALUE, Integer.MAX_VALUE}) {
            refused.badArgument("what " + what, bus -> bus.got(1, 0, what));
        }
    }

    private static void noFrame() {
        Refused refused = new Refused(DUE, 3);
        for (int what = 0; what < 3; what++) {
            int fine = what;
            refused.badIndex("0 of none", bus -> bus.got(0, 0, fine));
            refused.badIndex("-1 of none", bus -> bus.got(0, -1, fine));
            for (int i : new int[] {-1, 6, 7, Integer.MIN_VALUE, Integer.MAX_VALUE}) {
                refused.badIndex(i + " of six", bus -> bus.got(1, i, fine));
            }
            refused.badIndex("2 of two", bus -> bus.got(2, 2, fine));
        }
    }

    private static void lastFrame() {
        for (int frames = 1; frames <= 6; frames++) {
            BitBus bus = withFrames(frames);
            int behind = frames;
            DUE.equal("the last of " + frames, bus.got(1, frames - 1, 0), 199 + frames);
            DUE.badIndex("one behind " + frames, () -> bus.got(1, behind, 0));
            bus.take(1);
            DUE.badIndex("the last one's place when one is taken", () -> bus.got(1, behind - 1, 0));
        }
    }

    private static void changesNothing() {
        for (int w = 0; w < 3; w++) {
            int what = w;
            for (int place = 0; place < 6; place++) {
                int i = place;
                new Refused(DUE, 3).asks("got(1, " + i + ", " + what + ")", bus -> bus.got(1, i, what));
            }
        }
    }

    /** The document does not say which goes first; what is asked for is looked at before the inbox. */
    private static void wrongAndNoFrame() {
        Refused refused = new Refused(DUE, 2);
        refused.badArgument("no what", bus -> bus.got(0, 0, 3));
        refused.badArgument("no node", bus -> bus.got(2, 9, 0));
    }
}
