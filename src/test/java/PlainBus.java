import java.util.ArrayList;
import java.util.List;

/**
 * The document once more, in another form than BitBus has, to compare with: a sender drives a text of bits stuffed
 * beforehand, and a node keeps all that it saw of a frame and takes it apart anew in every bit time.
 */
final class PlainBus {
    static final class Sent {
        final int identifier;
        final boolean wide;
        final int length;
        final long data;

        Sent(int identifier, boolean wide, int length, long data) {
            this.identifier = identifier;
            this.wide = wide;
            this.length = length;
            this.data = data;
        }
    }

    static final class Station {
        final List<Sent> queue = new ArrayList<>();
        final List<Sent> inbox = new ArrayList<>();
        int mode = Wire.IDLE;
        int tec;
        int rec;
        int errors;
        int mask;
        int code;
        long wrongAt = -1;
        String raw = "";
        String plan = "";
        String since = "";
        char driven = '1';
        char flag = '1';

        boolean passive() {
            return tec > 31 || rec > 31;
        }
    }

    /** What a node can say of the bits of a frame that it has seen: those that are not stuffed, and what comes next. */
    static final class Apart {
        String bits = "";
        boolean stuffedNext;
        boolean sixth;
        int tail = Integer.MAX_VALUE;

        Apart(String raw) {
            String run = "";
            for (char bit : raw.toCharArray()) {
                if (stuffedNext) {
                    sixth = bit == run.charAt(0);
                    run = "" + bit;
                    stuffedNext = false;
                    continue;
                }
                bits += bit;
                run = !run.isEmpty() && run.charAt(0) == bit ? run + bit : "" + bit;
                findTail();
                stuffedNext = run.length() == 5 && bits.length() <= tail;
            }
        }

        boolean wide() {
            return bits.charAt(13) == '1';
        }

        int lengthAt() {
            return wide() ? 35 : 15;
        }

        int length() {
            return Math.min(8, Integer.parseInt(bits.substring(lengthAt(), lengthAt() + 4), 2));
        }

        private void findTail() {
            if (tail == Integer.MAX_VALUE && bits.length() > 13 && bits.length() == lengthAt() + 4) {
                tail = bits.length() + 8 * length() + 15;
            }
        }

        boolean right() {
            String body = bits.substring(0, tail - 15);
            return Wire.checked(body).equals(bits.substring(0, tail));
        }

        Sent frame() {
            int upper = Integer.parseInt(bits.substring(1, 12), 2);
            int identifier = wide() ? (upper << 18) + Integer.parseInt(bits.substring(14, 32), 2) : upper;
            String bytes = bits.substring(lengthAt() + 4, tail - 15);
            return new Sent(identifier, wide(), length(), bytes.isEmpty() ? 0 : Long.parseUnsignedLong(bytes, 2));
        }
    }

    final Station[] stations;
    private long time;
    private int sent;

    PlainBus(int nodes) {
        stations = new Station[nodes];
        for (int i = 0; i < nodes; i++) {
            stations[i] = new Station();
        }
    }

    void wrong(int node, int after) {
        stations[node].wrongAt = time + after;
    }

    /** One bit time: its level. */
    char step() {
        char level = '1';
        for (Station s : stations) {
            s.driven = drive(s);
            level = s.driven == '0' ? '0' : level;
        }
        for (Station s : stations) {
            char other = level == '0' ? '1' : '0';
            see(s, s.wrongAt == time ? other : level);
        }
        time++;
        return level;
    }

    int sent() {
        return sent;
    }

    private static char drive(Station s) {
        if (s.mode == Wire.IDLE && !s.queue.isEmpty()) {
            Sent first = s.queue.get(0);
            String checked = Wire.checked(Wire.body(first.identifier, first.wide, first.length, first.data));
            s.plan = Wire.stuffed(checked) + Wire.ones(10);
            s.raw = "";
            s.mode = Wire.SENDING;
        }
        if (s.mode == Wire.SENDING) {
            return s.plan.charAt(s.raw.length());
        }
        if (s.mode == Wire.READING) {
            Apart apart = new Apart(s.raw);
            return apart.bits.length() == apart.tail + 1 && apart.right() ? '0' : '1';
        }
        return s.mode == Wire.FLAG ? s.flag : '1';
    }

    private void see(Station s, char bit) {
        s.since += bit;
        if (s.mode == Wire.SENDING || s.mode == Wire.READING) {
            seeInFrame(s, bit);
        } else if ((s.mode == Wire.IDLE || s.mode == Wire.PAUSE) && bit == '0') {
            enter(s, Wire.READING);
            s.raw = "0";
        } else if (s.mode == Wire.FLAG && s.since.length() == 6) {
            enter(s, Wire.WAITING);
        } else if (s.mode == Wire.WAITING && bit == '1') {
            enter(s, Wire.DELIMITER);
        } else if (s.mode == Wire.DELIMITER && bit == '0') {
            enter(s, Wire.WAITING);
        } else if (s.mode == Wire.DELIMITER && s.since.length() == 7) {
            enter(s, Wire.PAUSE);
        } else if (s.mode == Wire.PAUSE && s.since.length() == 3) {
            enter(s, Wire.IDLE);
        } else if (s.mode == Wire.OFF && s.since.endsWith(Wire.ones(40))) {
            s.tec = 0;
            s.rec = 0;
            enter(s, Wire.IDLE);
        }
    }

    private static void enter(Station s, int mode) {
        s.mode = mode;
        s.since = "";
    }

    private void seeInFrame(Station s, char bit) {
        Apart before = new Apart(s.raw);
        int place = before.bits.length();
        int slot = before.tail == Integer.MAX_VALUE ? -1 : before.tail + 1;
        s.raw += bit;
        if (before.stuffedNext) {
            if (new Apart(s.raw).sixth) {
                error(s);
            }
            return;
        }
        boolean sender = s.mode == Wire.SENDING;
        if (sender && bit != s.driven && place != slot) {
            boolean wide = s.queue.get(0).wide;
            boolean contest = place >= 1 && place <= 13 || wide && place >= 14 && place <= 32;
            if (s.driven == '0' || !contest) {
                error(s);
            } else {
                s.mode = Wire.READING;
            }
            return;
        }
        if (slot >= 0 && place >= slot - 1) {
            seeBehindCheck(s, before, place - slot, bit);
        }
    }

    private void seeBehindCheck(Station s, Apart apart, int fromSlot, char bit) {
        boolean sender = s.mode == Wire.SENDING;
        boolean one = bit == '1';
        switch (fromSlot) {
            case -1:
                if (!one) {
                    error(s);
                }
                break;
            case 0:
                if (sender && one) {
                    error(s);
                }
                break;
            case 1:
                if (!one || !sender && !apart.right()) {
                    error(s);
                }
                break;
            case 7:
                if (!one) {
                    error(s);
                } else if (!sender) {
                    gotFrame(s, apart.frame());
                }
                break;
            case 8:
                seeLast(s, one);
                break;
            default:
                if (!one) {
                    error(s);
                }
                break;
        }
    }

    private void seeLast(Station s, boolean one) {
        if (s.mode == Wire.SENDING) {
            if (!one) {
                error(s);
                return;
            }
            s.tec = Math.max(0, s.tec - 1);
            s.queue.remove(0);
            sent++;
        }
        enter(s, Wire.PAUSE);
    }

    private static void gotFrame(Station s, Sent frame) {
        s.rec = Math.max(0, s.rec - 1);
        if (((frame.identifier ^ s.code) & s.mask) == 0 && s.inbox.size() < 6) {
            s.inbox.add(frame);
        }
    }

    private static void error(Station s) {
        s.errors++;
        if (s.mode == Wire.SENDING) {
            s.tec += 8;
        } else {
            s.rec++;
        }
        s.flag = s.passive() ? '1' : '0';
        enter(s, s.tec >= 64 ? Wire.OFF : Wire.FLAG);
    }
}
