/**
 * 'What is refused changes nothing': two buses with the same calls behind them and much under way; one of them gets
 * the call that is refused. Both must show the same then, go on the same, and show the same at the end.
 */
final class Refused {
    interface Call {
        void make(BitBus bus);
    }

    interface NodeCall {
        void make(BitBus bus, int node);
    }

    private final Due due;
    private final int nodes;

    Refused(Due due, int nodes) {
        this.due = due;
        this.nodes = nodes;
    }

    void badArgument(String what, Call call) {
        BitBus asked = busy(nodes);
        due.badArgument(what, () -> call.make(asked));
        isAsWithout(what, asked);
    }

    void badIndex(String what, Call call) {
        BitBus asked = busy(nodes);
        due.badIndex(what, () -> call.make(asked));
        isAsWithout(what, asked);
    }

    /** A call that just asks is not refused, and changes nothing either. */
    void asks(String what, Call call) {
        BitBus asked = busy(nodes);
        call.make(asked);
        isAsWithout(what, asked);
    }

    /** 'No node': -1 and N, whatever N is, and the numbers furthest out. */
    static void noNode(Due due, NodeCall call) {
        for (int nodes = 2; nodes <= 4; nodes++) {
            Refused refused = new Refused(due, nodes);
            for (int node : new int[] {Integer.MIN_VALUE, -1, nodes, nodes + 1, Integer.MAX_VALUE}) {
                refused.badArgument("node " + node + " of " + nodes, bus -> call.make(bus, node));
            }
            for (int n = 0; n < nodes; n++) {
                int node = n;
                BitBus bus = busy(nodes);
                due.notBadArgument("node " + node + " of " + nodes, () -> call.make(bus, node));
            }
        }
    }

    private void isAsWithout(String what, BitBus asked) {
        BitBus other = busy(nodes);
        due.equal(what + ", what is seen then,", Wire.state(asked, nodes), Wire.state(other, nodes));
        due.equal(what + ", the levels that follow,", Wire.next(asked, 900), Wire.next(other, 900));
        due.equal(what + ", what is seen at last,", Wire.state(asked, nodes), Wire.state(other, nodes));
    }

    /**
     * Node 0 has a full queue and is in the middle of a frame, its inbox is empty; node 1 has a full inbox; the last
     * of more than two has a filter, and two frames that came through it; all have counted an error, and each will
     * see one of the next bit times wrongly.
     */
    static BitBus busy(int nodes) {
        BitBus bus = new BitBus(nodes);
        if (nodes > 2) {
            bus.filter(nodes - 1, 0x400, 0);
        }
        int[] first = {0x121, 0x522, 0x523, 0x124, 0x525, 0x526, 0x527};
        for (int i = 0; i < first.length; i++) {
            bus.send(0, first[i], i == 3, i, 0x8182838485868788L);
            bus.run(200);
        }
        bus.wrong(1, 0);
        bus.run(40);
        int[] next = {0x131, 0x532, 0x133, 0x534};
        for (int i = 0; i < next.length; i++) {
            bus.send(0, next[i], i == 2, i, -1);
        }
        for (int n = 1; n < nodes; n++) {
            bus.send(n, 0x600 + n, false, 1, n);
            bus.send(n, 0x200 + n, true, 2, n);
        }
        bus.run(20);
        for (int n = 0; n < nodes; n++) {
            bus.wrong(n, 7 + 110 * n);
        }
        return bus;
    }
}
