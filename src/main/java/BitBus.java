/**
 * A bus on which all nodes write and read bit by bit; a 0 of any of them wins.
 * What it promises stands in DOC.md; the words used here (slot, end, flag, TEC, REC) are that document's.
 */
public final class BitBus {
    private static final int FEWEST_NODES = 2;
    private static final int MOST_NODES = 4;
    private static final int MOST_BIT_TIMES = 1000;
    private static final int MOST_BYTES = 8;
    private static final int SHORT_BITS = 11;
    private static final int LONG_BITS = 29;
    private static final int LOWER_BITS = LONG_BITS - SHORT_BITS;
    private static final int CHECK_BITS = 15;

    private final Node[] nodes;
    private long latestLevels = -1L;

    public BitBus(int nodes) {
        int count = Math.max(FEWEST_NODES, Math.min(MOST_NODES, nodes));
        this.nodes = new Node[count];
        for (int i = 0; i < count; i++) {
            this.nodes[i] = new Node();
        }
    }

    public int send(int node, int identifier, boolean wide, int length, long data)
            throws IllegalArgumentException, IndexOutOfBoundsException {
        Node sender = nodeAt(node);
        if (identifier >>> (wide ? LONG_BITS : SHORT_BITS) != 0) {
            throw new IllegalArgumentException("the identifier has too many bits");
        }
        if (length < 0 || length > MOST_BYTES) {
            throw new IllegalArgumentException("the length is not 0 .. 8");
        }
        sender.queue.add(identifier, wide, length, data);
        return sender.queue.size();
    }

    public void filter(int node, int mask, int code) throws IllegalArgumentException {
        nodeAt(node).setFilter(mask, code);
    }

    public void wrong(int node, int after) throws IllegalArgumentException {
        Node misled = nodeAt(node);
        checkBitTimes(after);
        misled.mislead(after);
    }

    public int run(int bits) throws IllegalArgumentException {
        checkBitTimes(bits);
        int before = countSent();
        for (int i = 0; i < bits; i++) {
            passBitTime();
        }
        return countSent() - before;
    }

    public long levels() {
        return latestLevels;
    }

    public int look(int node, int what) throws IllegalArgumentException {
        Node seen = nodeAt(node);
        switch (what) {
            case 0:
                return seen.mode.number;
            case 1:
                return seen.tec;
            case 2:
                return seen.rec;
            case 3:
                return seen.isPassive() ? 1 : 0;
            case 4:
                return seen.queue.size();
            case 5:
                return seen.inbox.size();
            case 6:
                return seen.errors;
            case 7:
                return seen.countFrameBits();
            default:
                throw new IllegalArgumentException("nothing to look at has this number");
        }
    }

    public int got(int node, int i, int what) throws IllegalArgumentException, IndexOutOfBoundsException {
        FrameRow inbox = nodeAt(node).inbox;
        if (what < 0 || what > 2) {
            throw new IllegalArgumentException("nothing of a frame has this number");
        }
        Frame frame = inbox.at(i);
        if (what == 0) {
            return frame.identifier;
        }
        if (what == 1) {
            return frame.wide ? 1 : 0;
        }
        return frame.length;
    }

    public long bytes(int node, int i) throws IllegalArgumentException, IndexOutOfBoundsException {
        return nodeAt(node).inbox.at(i).data;
    }

    public int take(int node) throws IllegalArgumentException, IndexOutOfBoundsException {
        FrameRow inbox = nodeAt(node).inbox;
        inbox.removeFirst();
        return inbox.size();
    }

    public int check(long v, int n) throws IllegalArgumentException {
        if (n < 0 || n > 64) {
            throw new IllegalArgumentException("the number of bits is not 0 .. 64");
        }
        int sum = 0;
        for (int i = n - 1; i >= 0; i--) {
            sum = nextCheck(sum, bitOf(v, i));
        }
        return sum;
    }

    private Node nodeAt(int node) throws IllegalArgumentException {
        if (node < 0 || node >= nodes.length) {
            throw new IllegalArgumentException("no such node");
        }
        return nodes[node];
    }

    private static void checkBitTimes(int count) throws IllegalArgumentException {
        if (count < 0 || count > MOST_BIT_TIMES) {
            throw new IllegalArgumentException("the bit times are not 0 .. 1000");
        }
    }

    private int countSent() {
        int sum = 0;
        for (int i = 0; i < nodes.length; i++) {
            sum += nodes[i].sent;
        }
        return sum;
    }

    private void passBitTime() {
        int level = 1;
        for (int i = 0; i < nodes.length; i++) {
            level &= nodes[i].drive();
        }
        for (int i = 0; i < nodes.length; i++) {
            nodes[i].see(level);
        }
        latestLevels = latestLevels << 1 | level;
    }

    private static int bitOf(long value, int i) {
        return (int) (value >>> i & 1);
    }

    private static int nextCheck(int sum, int bit) {
        int highest = sum >>> (CHECK_BITS - 1);
        int doubled = sum << 1 & 0x7fff;
        return bit == highest ? doubled : doubled ^ 0x4599;
    }

    private enum Mode {
        IDLE(0), SENDING(1), READING(2), FLAG(3), WAITING(4), DELIMITER(5), PAUSE(6), OFF(7);

        final int number;

        Mode(int number) {
            this.number = number;
        }
    }

    private static final class Frame {
        int identifier;
        boolean wide;
        int length;
        long data;
    }

    /** Frames in the order they came, at most so many; the places are made once and used again. */
    private static final class FrameRow {
        private final Frame[] frames;
        private int size;

        FrameRow(int room) {
            frames = new Frame[room];
            for (int i = 0; i < room; i++) {
                frames[i] = new Frame();
            }
        }

        int size() {
            return size;
        }

        boolean isFull() {
            return size >= frames.length;
        }

        Frame at(int i) throws IndexOutOfBoundsException {
            if (i < 0 || i >= size) {
                throw new IndexOutOfBoundsException("no such frame");
            }
            return frames[i];
        }

        void add(int identifier, boolean wide, int length, long data) throws IndexOutOfBoundsException {
            if (isFull()) {
                throw new IndexOutOfBoundsException("no room for another frame");
            }
            Frame frame = frames[size];
            frame.identifier = identifier;
            frame.wide = wide;
            frame.length = length;
            frame.data = data;
            size++;
        }

        void removeFirst() throws IndexOutOfBoundsException {
            if (size == 0) {
                throw new IndexOutOfBoundsException("no frame is there");
            }
            Frame first = frames[0];
            for (int i = 1; i < size; i++) {
                frames[i - 1] = frames[i];
            }
            size--;
            frames[size] = first;
        }
    }

    /** The bits of one frame without the stuffed ones, as a sender lays them out or as a node has seen them. */
    private static final class FrameBits {
        private static final int BEHIND_FIRST_11 = 1 + SHORT_BITS;
        private static final int LONG_MARK = BEHIND_FIRST_11 + 1;
        private static final int LOWER_AT = LONG_MARK + 1;
        private static final int BEHIND_18 = LOWER_AT + LOWER_BITS;
        private static final int SHORT_LENGTH_AT = LONG_MARK + 2;
        private static final int LONG_LENGTH_AT = BEHIND_18 + 3;
        private static final int LENGTH_BITS = 4;
        private static final int UNSTUFFED_BITS = 10;
        private static final int MOST_BITS =
                LONG_LENGTH_AT + LENGTH_BITS + 8 * MOST_BYTES + CHECK_BITS + UNSTUFFED_BITS;

        private final int[] bits = new int[MOST_BITS];
        private int size;
        private boolean wide;
        private int length;
        private int checkAt = MOST_BITS;
        private int sum;

        void clear() {
            size = 0;
            wide = false;
            length = 0;
            // Not known before the length is there: until then no bit may count as one behind the bytes.
            checkAt = MOST_BITS;
            sum = 0;
        }

        void layOut(Frame frame) {
            clear();
            append(0, 1);
            if (frame.wide) {
                append(frame.identifier >>> LOWER_BITS, SHORT_BITS);
                append(3, 2);
                append(frame.identifier, LOWER_BITS);
                append(0, 2);
            } else {
                append(frame.identifier, SHORT_BITS);
                append(0, 2);
            }
            append(0, 1);
            append(frame.length, LENGTH_BITS);
            append(frame.data, 8 * frame.length);
            append(sum, CHECK_BITS);
            append(-1, UNSTUFFED_BITS);
        }

        private void append(long number, int width) {
            for (int i = width - 1; i >= 0; i--) {
                add(bitOf(number, i));
            }
        }

        void add(int bit) {
            if (size >= MOST_BITS) {
                return;
            }
            if (size < tailAt()) {
                sum = nextCheck(sum, bit);
            }
            if (size == LONG_MARK) {
                wide = bit == 1;
            }
            bits[size] = bit;
            size++;
            if (size == bytesAt()) {
                length = Math.min(MOST_BYTES, (int) number(size - LENGTH_BITS, LENGTH_BITS));
                checkAt = size + 8 * length;
            }
        }

        int size() {
            return size;
        }

        int at(int i) {
            return i >= 0 && i < size ? bits[i] : 1;
        }

        private long number(int from, int width) {
            long number = 0;
            for (int i = from; i < from + width && i < size; i++) {
                number = number << 1 | bits[i];
            }
            return number;
        }

        private int bytesAt() {
            return LENGTH_BITS + (wide ? LONG_LENGTH_AT : SHORT_LENGTH_AT);
        }

        /** The place of the first bit that is never stuffed, the 1 before the slot. */
        int tailAt() {
            return checkAt + CHECK_BITS;
        }

        /** Answers for a frame that has all bits of its check. */
        boolean isCheckRight() {
            // The sum went on over the check itself: a bit equal to the sum's highest one just shifts that out,
            // so 0 is left if, and only if, all 15 were equal.
            return sum == 0;
        }

        /** Whether a sender that drives 1 at this place gives way to a 0. */
        boolean givesWayAt(int place) {
            return place >= 1 && place <= (wide ? BEHIND_18 : LONG_MARK);
        }

        boolean isWide() {
            return wide;
        }

        int identifier() {
            int upper = (int) number(1, SHORT_BITS);
            return wide ? upper << LOWER_BITS | (int) number(LOWER_AT, LOWER_BITS) : upper;
        }

        int length() {
            return length;
        }

        long data() {
            return number(bytesAt(), 8 * length);
        }
    }

    /** What a node does and counts in the bit times: drive() and then see(), once in each. */
    private static final class Node {
        private static final int QUEUE_ROOM = 4;
        private static final int INBOX_ROOM = 6;
        private static final int PASSIVE_FROM = 32;
        private static final int OFF_FROM = 64;
        private static final int STUFFED_BEHIND = 5;
        private static final int FLAG_BITS = 6;
        private static final int DELIMITER_BITS = 7;
        private static final int PAUSE_BITS = 3;
        private static final int OFF_BITS = 40;
        // Places in the part that is not stuffed, counted from the 1 before the slot.
        private static final int SLOT = 1;
        private static final int BEHIND_SLOT = 2;
        private static final int SIXTH_OF_END = 8;
        private static final int LAST_OF_END = 9;

        final FrameRow queue = new FrameRow(QUEUE_ROOM);
        final FrameRow inbox = new FrameRow(INBOX_ROOM);
        Mode mode = Mode.IDLE;
        int tec;
        int rec;
        int errors;
        int sent;
        private final FrameBits outgoing = new FrameBits();
        private final FrameBits seen = new FrameBits();
        private int mask;
        private int code;
        private int wrongAfter = -1;
        private int driven = 1;
        private int flagBit = 1;
        private int lastBit = 1;
        private int equalBits;
        private int bitsInMode;

        void setFilter(int newMask, int newCode) {
            mask = newMask;
            code = newCode;
        }

        void mislead(int after) {
            wrongAfter = after;
        }

        boolean isPassive() {
            return tec >= PASSIVE_FROM || rec >= PASSIVE_FROM;
        }

        int countFrameBits() {
            return mode == Mode.SENDING || mode == Mode.READING ? seen.size() : 0;
        }

        int drive() {
            if (mode == Mode.IDLE && queue.size() > 0) {
                outgoing.layOut(queue.at(0));
                beginFrame(Mode.SENDING);
            }
            driven = bitToDrive();
            return driven;
        }

        private int bitToDrive() {
            switch (mode) {
                case SENDING:
                    return isStuffedBitDue() ? 1 - lastBit : outgoing.at(seen.size());
                case READING:
                    return isAtSlot() && seen.isCheckRight() ? 0 : 1;
                case FLAG:
                    return flagBit;
                default:
                    return 1;
            }
        }

        void see(int level) {
            int bit = wrongAfter == 0 ? 1 - level : level;
            if (wrongAfter >= 0) {
                wrongAfter--;
            }
            switch (mode) {
                case SENDING:
                case READING:
                    seeInFrame(bit);
                    break;
                case FLAG:
                    countTowards(FLAG_BITS, Mode.WAITING);
                    break;
                case OFF:
                    seeWhileOff(bit);
                    break;
                default:
                    seeBetweenFrames(bit);
                    break;
            }
        }

        private void seeBetweenFrames(int bit) {
            switch (mode) {
                case WAITING:
                    if (bit == 1) {
                        enter(Mode.DELIMITER);
                    }
                    break;
                case DELIMITER:
                    if (bit == 1) {
                        countTowards(DELIMITER_BITS, Mode.PAUSE);
                    } else {
                        enter(Mode.WAITING);
                    }
                    break;
                default:
                    if (bit == 0) {
                        beginFrame(Mode.READING);
                        keep(bit);
                    } else if (mode == Mode.PAUSE) {
                        countTowards(PAUSE_BITS, Mode.IDLE);
                    }
                    break;
            }
        }

        private void seeWhileOff(int bit) {
            if (bit == 0) {
                bitsInMode = 0;
                return;
            }
            countTowards(OFF_BITS, Mode.IDLE);
            if (mode == Mode.IDLE) {
                tec = 0;
                rec = 0;
            }
        }

        private void enter(Mode next) {
            mode = next;
            bitsInMode = 0;
        }

        private void countTowards(int bits, Mode next) {
            bitsInMode++;
            if (bitsInMode >= bits) {
                enter(next);
            }
        }

        private void beginFrame(Mode next) {
            enter(next);
            seen.clear();
            equalBits = 0;
        }

        private boolean isStuffedBitDue() {
            return equalBits == STUFFED_BEHIND && seen.size() <= seen.tailAt();
        }

        private boolean isAtSlot() {
            return seen.size() == seen.tailAt() + SLOT;
        }

        private void seeInFrame(int bit) {
            if (isStuffedBitDue()) {
                seeStuffedBit(bit);
                return;
            }
            if (mode == Mode.SENDING && bit != driven && !isAtSlot()) {
                if (driven == 0 || !outgoing.givesWayAt(seen.size())) {
                    fail();
                    return;
                }
                mode = Mode.READING;
            }
            int place = seen.size() - seen.tailAt();
            keep(bit);
            if (place >= 0 && isErrorInTail(place, bit)) {
                fail();
            } else if (place == SIXTH_OF_END && mode == Mode.READING) {
                acceptFrame();
            } else if (place == LAST_OF_END) {
                endFrame();
            }
        }

        private void seeStuffedBit(int bit) {
            if (bit == lastBit) {
                fail();
            } else {
                countEqual(bit);
            }
        }

        private void keep(int bit) {
            countEqual(bit);
            seen.add(bit);
        }

        private void countEqual(int bit) {
            equalBits = bit == lastBit ? equalBits + 1 : 1;
            lastBit = bit;
        }

        private boolean isErrorInTail(int place, int bit) {
            boolean reading = mode == Mode.READING;
            if (place == SLOT) {
                return !reading && bit == 1;
            }
            if (place == BEHIND_SLOT && reading && !seen.isCheckRight()) {
                return true;
            }
            return bit == 0 && !(place == LAST_OF_END && reading);
        }

        private void acceptFrame() {
            if (rec > 0) {
                rec--;
            }
            int identifier = seen.identifier();
            if ((identifier & mask) == (code & mask) && !inbox.isFull()) {
                inbox.add(identifier, seen.isWide(), seen.length(), seen.data());
            }
        }

        private void endFrame() {
            if (mode == Mode.SENDING) {
                if (tec > 0) {
                    tec--;
                }
                queue.removeFirst();
                sent++;
            }
            enter(Mode.PAUSE);
        }

        private void fail() {
            errors++;
            if (mode == Mode.SENDING) {
                tec += 8;
            } else {
                rec++;
            }
            flagBit = isPassive() ? 1 : 0;
            enter(tec >= OFF_FROM ? Mode.OFF : Mode.FLAG);
        }
    }
}
