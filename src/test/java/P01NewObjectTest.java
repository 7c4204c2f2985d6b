/** Promise 1: how many nodes there are, and that all is empty. */
public final class P01NewObjectTest {
    private static final Due DUE = new Due();

    public static void main(String[] args) {
        countsNodes(Integer.MIN_VALUE, 2);
        countsNodes(-1, 2);
        countsNodes(0, 2);
        countsNodes(1, 2);
        countsNodes(2, 2);
        countsNodes(3, 3);
        countsNodes(4, 4);
        countsNodes(5, 4);
        countsNodes(Integer.MAX_VALUE, 4);
        filtersTakeAll();
        DUE.end();
    }

    private static void countsNodes(int asked, int nodes) {
        BitBus bus = new BitBus(asked);
        DUE.equal("levels of " + asked, bus.levels(), -1);
        for (int n = 0; n < nodes; n++) {
            for (int what = 0; what < 8; what++) {
                DUE.equal("new BitBus(" + asked + ") look(" + n + ", " + what + ")", bus.look(n, what), 0);
            }
        }
        DUE.badArgument("new BitBus(" + asked + ") look(" + nodes + ", 0)", () -> bus.look(nodes, 0));
        DUE.badArgument("new BitBus(" + asked + ") look(-1, 0)", () -> bus.look(-1, 0));
    }

    private static void filtersTakeAll() {
        BitBus bus = new BitBus(4);
        bus.send(0, 0x7ff, false, 0, 0);
        bus.send(0, 0, true, 0, 0);
        bus.run(300);
        for (int n = 1; n < 4; n++) {
            DUE.equal("a new filter takes all, node " + n, bus.look(n, 5), 2);
        }
        DUE.equal("a sender gets nothing of its own", bus.look(0, 5), 0);
    }
}
