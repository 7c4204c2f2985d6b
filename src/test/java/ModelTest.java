import java.util.Random;

/** Long runs of drawn calls (always the same ones), each answer compared with the plain model's. */
public final class ModelTest {
    private static final Due DUE = new Due();
    // At most nine calls a round, and all that can be seen at the end: below the 512 calls of an object.
    private static final int MOST_ROUNDS = 38;

    public static void main(String[] args) {
        for (int seed = 0; seed < 1600; seed++) {
            compare(seed);
        }
        DUE.end();
    }

    private static void compare(int seed) {
        Random draw = new Random(seed);
        int nodes = 2 + draw.nextInt(3);
        BitBus bus = new BitBus(nodes);
        PlainBus plain = new PlainBus(nodes);
        int noise = new int[] {0, 5, 20, 60}[draw.nextInt(4)];
        long levels = -1;
        int rounds = 1 + draw.nextInt(MOST_ROUNDS);
        for (int round = 0; round < rounds; round++) {
            String at = "seed " + seed + " round " + round;
            for (int i = draw.nextInt(3); i > 0; i--) {
                send(at, draw, bus, plain);
            }
            for (int i = draw.nextInt(3); i > 0 && draw.nextInt(100) < 2 * noise; i--) {
                int misled = draw.nextInt(nodes);
                int after = draw.nextInt(40);
                bus.wrong(misled, after);
                plain.wrong(misled, after);
            }
            tell(at, draw, bus, plain);
            int bits = draw.nextInt(100) < noise ? draw.nextInt(8) : draw.nextInt(120);
            int before = plain.sent();
            for (int i = 0; i < bits; i++) {
                levels = levels << 1 | (plain.step() - '0');
            }
            DUE.equal(at + " run", bus.run(bits), plain.sent() - before);
            DUE.equal(at + " levels", bus.levels(), levels);
            int node = draw.nextInt(nodes);
            int what = draw.nextInt(8);
            int want = looks(plain.stations[node])[what];
            DUE.equal(at + " look(" + node + ", " + what + ")", bus.look(node, what), want);
        }
        DUE.equal("seed " + seed, Wire.state(bus, nodes), state(plain, levels));
    }

    private static void send(String at, Random draw, BitBus bus, PlainBus plain) {
        int node = draw.nextInt(plain.stations.length);
        boolean wide = draw.nextBoolean();
        int identifier = draw.nextInt() >>> (wide ? 3 : 21);
        if (draw.nextInt(3) == 0) {
            identifier = wide ? 0x155 << 18 | draw.nextInt(4) : 0x155;
        }
        int length = draw.nextInt(9);
        long data = draw.nextInt(3) == 0 ? 0 : draw.nextLong();
        PlainBus.Station station = plain.stations[node];
        if (station.queue.size() == 4) {
            int refusedIdentifier = identifier;
            DUE.badIndex(at + " send", () -> bus.send(node, refusedIdentifier, wide, length, data));
            return;
        }
        station.queue.add(new PlainBus.Sent(identifier, wide, length, data));
        DUE.equal(at + " send", bus.send(node, identifier, wide, length, data), station.queue.size());
    }

    private static void tell(String at, Random draw, BitBus bus, PlainBus plain) {
        int node = draw.nextInt(plain.stations.length);
        PlainBus.Station station = plain.stations[node];
        if (draw.nextInt(4) == 0 && !station.inbox.isEmpty()) {
            station.inbox.remove(0);
            DUE.equal(at + " take", bus.take(node), station.inbox.size());
        }
        if (draw.nextInt(15) == 0) {
            station.mask = draw.nextInt(4);
            station.code = draw.nextInt();
            bus.filter(node, station.mask, station.code);
        }
    }

    private static int[] looks(PlainBus.Station s) {
        boolean inFrame = s.mode == Wire.SENDING || s.mode == Wire.READING;
        int bits = inFrame ? new PlainBus.Apart(s.raw).bits.length() : 0;
        return new int[] {s.mode, s.tec, s.rec, s.passive() ? 1 : 0, s.queue.size(), s.inbox.size(), s.errors, bits};
    }

    private static String state(PlainBus plain, long levels) {
        StringBuilder row = new StringBuilder();
        row.append(levels);
        for (PlainBus.Station s : plain.stations) {
            row.append(" | ");
            for (int look : looks(s)) {
                row.append(look).append(' ');
            }
            for (PlainBus.Sent f : s.inbox) {
                row.append(f.identifier).append('/').append(f.wide ? 1 : 0).append('/');
                row.append(f.length).append('/').append(f.data).append(' ');
            }
        }
        return row.toString();
    }
}
