/** What goes over the bus, as texts of 0 and 1, made from the document alone and not by the class under test. */
final class Wire {
    static final int IDLE = 0;
    static final int SENDING = 1;
    static final int READING = 2;
    static final int FLAG = 3;
    static final int WAITING = 4;
    static final int DELIMITER = 5;
    static final int PAUSE = 6;
    static final int OFF = 7;

    private Wire() {
    }

    /** The bits of a frame up to the last byte. */
    static String body(int identifier, boolean wide, int length, long data) {
        String all = number(identifier, wide ? 29 : 11);
        String head = wide ? "0" + all.substring(0, 11) + "11" + all.substring(11) + "00" : "0" + all + "00";
        String row = head + "0" + number(length, 4);
        for (int i = length - 1; i >= 0; i--) {
            row += number(data >>> (8 * i), 8);
        }
        return row;
    }

    static String checked(String body) {
        return body + number(checkOf(body), 15);
    }

    /** The remainder by polynomial division, bits of the text first to last. */
    static int checkOf(String bits) {
        char[] row = (bits + "0".repeat(15)).toCharArray();
        String divisor = "1" + number(0x4599, 15);
        for (int i = 0; i < bits.length(); i++) {
            if (row[i] == '1') {
                for (int k = 0; k < divisor.length(); k++) {
                    row[i + k] = row[i + k] == divisor.charAt(k) ? '0' : '1';
                }
            }
        }
        return Integer.parseInt("0" + new String(row).substring(bits.length()), 2);
    }

    static String stuffed(String bits) {
        StringBuilder row = new StringBuilder();
        for (int i = 0; i < bits.length(); i++) {
            row.append(bits.charAt(i));
            if (row.toString().endsWith("00000")) {
                row.append('1');
            } else if (row.toString().endsWith("11111")) {
                row.append('0');
            }
        }
        return row.toString();
    }

    /** All that is on the bus while a frame goes by and a reader says 0 in the slot. */
    static String frame(int identifier, boolean wide, int length, long data) {
        return stuffed(checked(body(identifier, wide, length, data))) + "1" + "0" + "1" + "1111111";
    }

    static String number(long value, int width) {
        StringBuilder row = new StringBuilder();
        for (int i = width - 1; i >= 0; i--) {
            row.append((value >>> i & 1) == 1 ? '1' : '0');
        }
        return row.toString();
    }

    static String ones(int count) {
        return "1".repeat(count);
    }

    static String zeros(int count) {
        return "0".repeat(count);
    }

    /** The next levels of the bus; in few calls, since an object is used for at most 512. */
    static String next(BitBus bus, int bits) {
        StringBuilder row = new StringBuilder();
        for (int left = bits; left > 0; left -= 64) {
            int part = Math.min(64, left);
            bus.run(part);
            row.append(number(bus.levels(), part));
        }
        return row.toString();
    }

    /** Lets the bus go on with these levels, while a node sees others in their place. */
    static void show(BitBus bus, int node, String levels, String seen) {
        for (int i = 0; i < levels.length(); i++) {
            if (levels.charAt(i) != seen.charAt(i)) {
                bus.wrong(node, 0);
            }
            bus.run(1);
        }
    }

    /** Tells all that can be seen of a bus, to show that a refused call changes nothing. */
    static String state(BitBus bus, int nodes) {
        StringBuilder row = new StringBuilder();
        row.append(bus.levels());
        for (int n = 0; n < nodes; n++) {
            row.append(" | ");
            for (int what = 0; what < 8; what++) {
                row.append(bus.look(n, what)).append(' ');
            }
            int inbox = bus.look(n, 5);
            for (int i = 0; i < inbox; i++) {
                row.append(bus.got(n, i, 0)).append('/').append(bus.got(n, i, 1)).append('/');
                row.append(bus.got(n, i, 2)).append('/').append(bus.bytes(n, i)).append(' ');
            }
        }
        return row.toString();
    }
}
