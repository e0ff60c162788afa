/**
 * A master and its slaves on one wire. The promises that the comments name by number are those of
 * the document (DOC.md).
 */
public final class LinRows {
    private static final int MOST_SLAVES = 16;
    private static final int MOST_FRAMES = 62;
    private static final int MOST_SLOTS = 64;
    private static final int MOST_ERRORS = 200;
    private static final int MOST_OCTETS = 8;
    private static final int MOST_TICKS = 1000;
    private static final int MOST_SLOTS_A_RUN = 1000;
    private static final int MOST_PERMILLE = 1000;
    private static final int HIGHEST_ADDRESS = 125;
    private static final int HIGHEST_IDENTIFIER = 61;
    private static final int HIGHEST_PARITY_IDENTIFIER = 63;

    private static final int UNKNOWN = -1;
    private static final int OUT_OF_RANGE = -2;
    private static final int WRONG_STATE = -3;
    private static final int NO_ROOM = -4;

    private static final int MASTER = 0;
    private static final int ANY = -1;
    private static final int SPORADIC = -2;

    private static final int REQUEST = 60;
    private static final int ANSWER = 61;

    private static final int NOBODY_SENT = 1;
    private static final int SUM_IS_WRONG = 2;
    private static final int SLOT_TOO_SHORT = 3;
    private static final int COLLIDED = 4;

    private static final int HEARD_PERMILLE = 140;
    private static final int TICKS_OF_A_HEADER_AND_SUM = 44;
    private static final int TICKS_OF_AN_OCTET = 10;
    private static final int WAKING_BY_MASTER = 100;
    private static final int WAKING_BY_SLAVE = 108;

    private static final int SERVICE_LENGTH = 6;
    private static final int CHANGE_ADDRESS = 176;
    // Rows of octets lie in a long, octet 0 lowest; in this one octet 0 is left for the address.
    private static final long ADDRESS_CHANGED = 0xFFFFFFFFFFF00100L;
    private static final long GO_TO_SLEEP = 0xFFFFFFFFFFFFFF00L;

    private final Nodes nodes = new Nodes();
    private final Frames frames = new Frames();
    private final Schedule schedule = new Schedule();
    private final Errors errors = new Errors();
    private final Senders senders = new Senders();
    private boolean asleep;

    /** Promise 1. */
    public LinRows() {
    }

    /** Promise 2. */
    public int slave(int address) {
        if (address < 1 || address > HIGHEST_ADDRESS) {
            return OUT_OF_RANGE;
        }
        if (nodes.slaveAt(address) != null) {
            return WRONG_STATE;
        }
        return nodes.add(address);
    }

    /** Promise 3. */
    public int frame(int identifier, int from, int length, boolean enhanced) {
        if (from > nodes.slaves()) {
            return UNKNOWN;
        }
        if (from < SPORADIC || !isFrameShape(identifier, from, length)) {
            return OUT_OF_RANGE;
        }
        if (frames.identified(identifier) != null) {
            return WRONG_STATE;
        }
        boolean service = identifier == REQUEST || identifier == ANSWER;
        int sumStart = enhanced && !service ? protectedIdentifier(identifier) : 0;
        return frames.add(identifier, from, length, sumStart);
    }

    /** Promise 4. */
    public int slot(int frame, int ticks) {
        Frame f = frames.numbered(frame);
        if (f == null) {
            return UNKNOWN;
        }
        if (ticks < 1 || ticks > MOST_TICKS) {
            return OUT_OF_RANGE;
        }
        return schedule.add(f, ticks);
    }

    /** Promise 5. */
    public int run(int slots) {
        if (slots < 0 || slots > MOST_SLOTS_A_RUN) {
            return OUT_OF_RANGE;
        }
        if (schedule.isEmpty() || asleep) {
            return WRONG_STATE;
        }
        int done = 0;
        for (int k = 0; k < slots; k++) {
            Slot s = schedule.upcoming();
            if (s != null && passSlot(s)) {
                done++;
            }
            schedule.goOn();
        }
        return done;
    }

    /** Promise 6. */
    public int parity(int identifier) {
        if (identifier < 0 || identifier > HIGHEST_PARITY_IDENTIFIER) {
            return OUT_OF_RANGE;
        }
        return protectedIdentifier(identifier);
    }

    /** Promise 7. */
    public int sum(int frame) {
        Frame f = frames.numbered(frame);
        if (f == null) {
            return UNKNOWN;
        }
        if (!f.everHeld) {
            return WRONG_STATE;
        }
        return f.sumOf(f.held);
    }

    /** Promise 8. */
    public int answer(int slave, int frame, byte b) {
        Frame f = frames.numbered(frame);
        if (f == null || nodes.numbered(slave) == null) {
            return UNKNOWN;
        }
        if (f.isFromMaster() != (slave == MASTER)) {
            return OUT_OF_RANGE;
        }
        return f.take(slave, b);
    }

    /** Promise 9. */
    public int collision(int slot, int i) {
        Slot s = schedule.numbered(slot);
        if (s == null) {
            return UNKNOWN;
        }
        return s.inTable(i);
    }

    /** Promise 10. */
    public int wake(int node) {
        Node n = nodes.numbered(node);
        if (n == null) {
            return UNKNOWN;
        }
        if (!n.hears) {
            return WRONG_STATE;
        }
        if (!asleep) {
            return 0;
        }
        asleep = false;
        return node == MASTER ? WAKING_BY_MASTER : WAKING_BY_SLAVE;
    }

    /** Promise 11. */
    public int sleep() {
        if (asleep) {
            return WRONG_STATE;
        }
        Frame request = frames.identified(REQUEST);
        if (request != null) {
            request.hold(GO_TO_SLEEP);
        }
        asleep = true;
        return 1;
    }

    /** Promise 12. */
    public int rate(int slave, int permille) {
        Node n = nodes.numbered(slave);
        if (n == null || slave == MASTER) {
            return UNKNOWN;
        }
        if (permille < -MOST_PERMILLE || permille > MOST_PERMILLE) {
            return OUT_OF_RANGE;
        }
        n.hears = permille >= -HEARD_PERMILLE && permille <= HEARD_PERMILLE;
        return n.hears ? 1 : 0;
    }

    /** Promise 13. */
    public int error(int i, int what) {
        return errors.tell(i, what);
    }

    /** Promise 14. */
    public byte at(int frame, int i) throws ArrayIndexOutOfBoundsException {
        Frame f = frames.numbered(frame);
        if (f == null) {
            return 0;
        }
        if (i < 0 || i >= f.length) {
            throw new ArrayIndexOutOfBoundsException("the frame has no such octet");
        }
        return (byte) octet(f.held, i);
    }

    private static boolean isFrameShape(int identifier, int from, int length) {
        if (identifier < 0 || identifier > HIGHEST_IDENTIFIER) {
            return false;
        }
        if (identifier == REQUEST) {
            return from == MASTER && length == MOST_OCTETS;
        }
        if (identifier == ANSWER) {
            return from == ANY && length == MOST_OCTETS;
        }
        return length >= 1 && length <= MOST_OCTETS;
    }

    private static int protectedIdentifier(int identifier) {
        int even = bit(identifier, 0) ^ bit(identifier, 1) ^ bit(identifier, 2) ^ bit(identifier, 4);
        int odd = bit(identifier, 1) ^ bit(identifier, 3) ^ bit(identifier, 4) ^ bit(identifier, 5);
        return identifier | even << 6 | (odd ^ 1) << 7;
    }

    private static int bit(int value, int i) {
        return value >> i & 1;
    }

    private static int octet(long octets, int i) {
        return (int) (octets >>> 8 * i) & 255;
    }

    /** Tells whether the slot's frame was DONE. */
    private boolean passSlot(Slot s) {
        gatherSenders(s);
        if (senders.count == 0) {
            if (s.frame.from >= MASTER) {
                noteError(NOBODY_SENT, s);
            }
            return false;
        }
        if (s.frame.ticksNeeded() > s.ticks) {
            noteError(SLOT_TOO_SHORT, s);
            return false;
        }
        if (s.frame.from == ANY && !senders.agree()) {
            noteError(COLLIDED, s);
            s.fillTable(senders);
            return false;
        }
        return send(s);
    }

    private boolean send(Slot s) {
        Frame f = s.frame;
        markSent(f);
        long wire = senders.octetsOnWire();
        if (senders.sumOnWire(f) != f.sumOf(wire)) {
            noteError(SUM_IS_WRONG, s);
            return false;
        }
        f.hold(wire);
        if (f.identifier == REQUEST) {
            changeAddress(wire);
        }
        return true;
    }

    private void noteError(int kind, Slot s) {
        errors.add(kind, s.number, s.frame.number, schedule.tick);
    }

    private void gatherSenders(Slot s) {
        Frame f = s.frame;
        senders.clear();
        if (f.identifier == ANSWER) {
            gatherAsked(f);
        } else if (f.from == MASTER) {
            addSender(f, MASTER, f.has[MASTER]);
        } else if (f.from == SPORADIC) {
            addSender(f, MASTER, f.fresh[MASTER]);
        } else if (f.from == ANY && s.tableSize > 0) {
            int first = s.takeFromTable();
            addSender(f, first, nodes.hears(first));
        } else {
            gatherSlaves(f);
        }
    }

    private void addSender(Frame f, int node, boolean sends) {
        if (sends) {
            senders.add(node, f.given[node]);
        }
    }

    private void gatherSlaves(Frame f) {
        for (int n = 1; n <= nodes.slaves(); n++) {
            boolean ready = n == f.from ? f.has[n] : f.fresh[n];
            addSender(f, n, ready && nodes.hears(n));
        }
    }

    private void gatherAsked(Frame f) {
        Frame request = frames.identified(REQUEST);
        if (request == null || !request.everHeld) {
            return;
        }
        Node asked = nodes.slaveAt(octet(request.held, 0));
        if (asked == null || !asked.hears) {
            return;
        }
        if (asked.mustTellAddress) {
            senders.add(asked.number, ADDRESS_CHANGED | asked.address);
        } else {
            addSender(f, asked.number, f.has[asked.number]);
        }
    }

    private void markSent(Frame f) {
        for (int k = 0; k < senders.count; k++) {
            f.fresh[senders.number[k]] = false;
        }
        if (f.identifier == ANSWER) {
            Node asked = nodes.numbered(senders.number[0]);
            if (asked != null) {
                asked.mustTellAddress = false;
            }
        }
    }

    private void changeAddress(long request) {
        int address = octet(request, 3);
        if (octet(request, 1) != SERVICE_LENGTH || octet(request, 2) != CHANGE_ADDRESS) {
            return;
        }
        if (address < 1 || address > HIGHEST_ADDRESS || nodes.slaveAt(address) != null) {
            return;
        }
        Node asked = nodes.slaveAt(octet(request, 0));
        if (asked != null && asked.hears) {
            asked.address = address;
            asked.mustTellAddress = true;
        }
    }

    private static final class Node {
        final int number;
        int address;
        boolean hears = true;
        boolean mustTellAddress;

        Node(int number, int address) {
            this.number = number;
            this.address = address;
        }
    }

    /** The master, as number 0, and the slaves. */
    private static final class Nodes {
        private final Node[] row = new Node[MOST_SLAVES + 1];
        private int last;

        Nodes() {
            row[MASTER] = new Node(MASTER, 0);
        }

        int slaves() {
            return last;
        }

        int add(int address) {
            if (last >= MOST_SLAVES) {
                return NO_ROOM;
            }
            last++;
            row[last] = new Node(last, address);
            return last;
        }

        Node numbered(int number) {
            return number >= MASTER && number <= last ? row[number] : null;
        }

        boolean hears(int number) {
            Node n = numbered(number);
            return n != null && n.hears;
        }

        // Begins behind the master: address 0, as it stands in the request to sleep, is nobody's.
        Node slaveAt(int address) {
            for (int n = 1; n <= last; n++) {
                Node slave = row[n];
                if (slave != null && slave.address == address) {
                    return slave;
                }
            }
            return null;
        }
    }

    /** A frame, with what each node has for it; the rows are by the node's number. */
    private static final class Frame {
        final int number;
        final int identifier;
        final int from;
        final int length;
        final int sumStart;
        long held;
        boolean everHeld;
        final long[] given = new long[MOST_SLAVES + 1];
        final boolean[] has = new boolean[MOST_SLAVES + 1];
        final boolean[] fresh = new boolean[MOST_SLAVES + 1];
        // A row that is not whole yet is kept apart: until then the one before it stays.
        private final long[] coming = new long[MOST_SLAVES + 1];
        private final int[] come = new int[MOST_SLAVES + 1];

        Frame(int number, int identifier, int from, int length, int sumStart) {
            this.number = number;
            this.identifier = identifier;
            this.from = from;
            this.length = length;
            this.sumStart = sumStart;
        }

        boolean isFromMaster() {
            return from == MASTER || from == SPORADIC;
        }

        int ticksNeeded() {
            return TICKS_OF_A_HEADER_AND_SUM + TICKS_OF_AN_OCTET * length;
        }

        int take(int node, byte b) {
            coming[node] |= (b & 255L) << 8 * come[node];
            come[node]++;
            int missing = length - come[node];
            if (missing == 0) {
                given[node] = coming[node];
                has[node] = true;
                fresh[node] = true;
                coming[node] = 0;
                come[node] = 0;
            }
            return missing;
        }

        void hold(long octets) {
            held = octets;
            everHeld = true;
        }

        int sumOf(long octets) {
            int total = sumStart;
            for (int i = 0; i < length; i++) {
                total += octet(octets, i);
                if (total > 255) {
                    total -= 255;
                }
            }
            return 255 - total;
        }
    }

    private static final class Frames {
        private final Frame[] row = new Frame[MOST_FRAMES + 1];
        private int last;

        int add(int identifier, int from, int length, int sumStart) {
            if (last >= MOST_FRAMES) {
                return NO_ROOM;
            }
            last++;
            row[last] = new Frame(last, identifier, from, length, sumStart);
            return last;
        }

        Frame numbered(int number) {
            return number >= 1 && number <= last ? row[number] : null;
        }

        Frame identified(int identifier) {
            for (int n = 1; n <= last; n++) {
                Frame frame = row[n];
                if (frame != null && frame.identifier == identifier) {
                    return frame;
                }
            }
            return null;
        }
    }

    private static final class Slot {
        final int number;
        final Frame frame;
        final int ticks;
        int tableSize;
        private final int[] table = new int[MOST_SLAVES];

        Slot(int number, Frame frame, int ticks) {
            this.number = number;
            this.frame = frame;
            this.ticks = ticks;
        }

        int inTable(int i) {
            return i >= 0 && i < tableSize ? table[i] : 0;
        }

        void fillTable(Senders senders) {
            tableSize = Math.min(senders.count, MOST_SLAVES);
            System.arraycopy(senders.number, 0, table, 0, tableSize);
        }

        int takeFromTable() {
            if (tableSize == 0) {
                return 0;
            }
            int first = table[0];
            tableSize--;
            System.arraycopy(table, 1, table, 0, tableSize);
            return first;
        }
    }

    private static final class Schedule {
        private final Slot[] row = new Slot[MOST_SLOTS + 1];
        private int last;
        private int next = 1;
        /** The ticks of all slots that have gone by. */
        int tick;

        boolean isEmpty() {
            return last == 0;
        }

        int add(Frame frame, int ticks) {
            if (last >= MOST_SLOTS) {
                return NO_ROOM;
            }
            last++;
            row[last] = new Slot(last, frame, ticks);
            return last;
        }

        Slot numbered(int number) {
            return number >= 1 && number <= last ? row[number] : null;
        }

        Slot upcoming() {
            return numbered(next);
        }

        void goOn() {
            Slot gone = upcoming();
            if (gone != null) {
                tick += gone.ticks;
            }
            next = next < last ? next + 1 : 1;
        }
    }

    /** Who sends in the slot that goes by, in the order of their numbers; one row for all slots. */
    private static final class Senders {
        int count;
        final int[] number = new int[MOST_SLAVES + 1];
        private final long[] octets = new long[MOST_SLAVES + 1];

        void clear() {
            count = 0;
        }

        void add(int node, long sent) {
            if (count < number.length) {
                number[count] = node;
                octets[count] = sent;
                count++;
            }
        }

        boolean agree() {
            for (int k = 1; k < count; k++) {
                if (octets[k] != octets[0]) {
                    return false;
                }
            }
            return true;
        }

        long octetsOnWire() {
            long wire = -1L;
            for (int k = 0; k < count; k++) {
                wire &= octets[k];
            }
            return wire;
        }

        int sumOnWire(Frame f) {
            int wire = 255;
            for (int k = 0; k < count; k++) {
                wire &= f.sumOf(octets[k]);
            }
            return wire;
        }
    }

    /** The first errors; those behind them are not kept. */
    private static final class Errors {
        private final int[] kind = new int[MOST_ERRORS];
        private final int[] slotNumber = new int[MOST_ERRORS];
        private final int[] frameNumber = new int[MOST_ERRORS];
        private final int[] tick = new int[MOST_ERRORS];
        private int count;

        void add(int what, int ofSlot, int ofFrame, int atTick) {
            if (count < MOST_ERRORS) {
                kind[count] = what;
                slotNumber[count] = ofSlot;
                frameNumber[count] = ofFrame;
                tick[count] = atTick;
                count++;
            }
        }

        int tell(int i, int what) {
            if (i < 0 || i >= count) {
                return UNKNOWN;
            }
            switch (what) {
                case 0:
                    return kind[i];
                case 1:
                    return slotNumber[i];
                case 2:
                    return frameNumber[i];
                case 3:
                    return tick[i];
                default:
                    return OUT_OF_RANGE;
            }
        }
    }
}
