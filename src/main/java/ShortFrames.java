/**
 * Packets on a link of short frames: heads squeezed and unfolded again, packets cut to frames and
 * put together again. ../shared/DOC.md says what every call answers; its words in capitals are the
 * names used here.
 */
public final class ShortFrames {
    public static final int BAD = -1, NOT = -2, FULL = -3;

    private static final int MOST_TAPE = 640;
    private static final int MOST_BEHIND = 560;
    private static final int MOST_PACKET = 600;
    private static final int MOST_FRAMES = 40;
    private static final int LEAST_SIZE = 40;
    private static final int MOST_SIZE = 120;
    private static final int MOST_TAG = 65535;
    private static final int HEAD = 40;
    private static final int HEAD_WITH_PORTS = 48;
    private static final int FIRST_MARK = 192;
    private static final int FURTHER_MARK = 224;

    private final Row tape;
    private final Row out;
    private final Known known;
    private final Squeezer squeezer;
    private final Unfolder unfolder;
    private final Frames frames;
    private final Cutter cutter;
    private final Receiver receiver;
    private final int[] latest;

    public ShortFrames() {
        Known both = new Known();
        Squeezer squeezing = new Squeezer(both);
        Unfolder unfolding = new Unfolder(both);
        tape = new Row(MOST_TAPE);
        out = new Row(MOST_TAPE);
        known = both;
        squeezer = squeezing;
        unfolder = unfolding;
        frames = new Frames();
        cutter = new Cutter(squeezing);
        receiver = new Receiver(unfolding);
        latest = new int[8];
    }

    // ---- what both ends know

    public int context(int i, boolean there, long bytes) {
        if (i < 0 || i >= Known.CONTEXTS) {
            return BAD;
        }
        boolean was = known.isThere(i);
        known.setContext(i, there, bytes);
        return was ? 1 : 0;
    }

    public int link(int which, boolean isLong, long v) {
        if (which != Known.SENDER && which != Known.RECEIVER) {
            return BAD;
        }
        known.setLink(which, isLong, v);
        return 1;
    }

    // ---- bytes

    public int type(long w, int n) {
        if (n < 1 || n > 8) {
            return BAD;
        }
        if (!tape.takes(n)) {
            return FULL;
        }
        tape.addNumber(w, n);
        return tape.length();
    }

    public int head(int t, int l, int n, int kind, int hops, long source, long source2, long goal, long goal2) {
        if (isOutside(t, 255) || isOutside(l, 1048575) || isOutside(n, MOST_BEHIND)
                || isOutside(kind, 255) || isOutside(hops, 255)) {
            return BAD;
        }
        if (!tape.takes(HEAD)) {
            return FULL;
        }
        tape.addNumber(Packet.firstFour(t, l), 4);
        tape.addNumber(n, 2);
        tape.add(kind);
        tape.add(hops);
        tape.addNumber(source, 8);
        tape.addNumber(source2, 8);
        tape.addNumber(goal, 8);
        tape.addNumber(goal2, 8);
        return tape.length();
    }

    public int cut(int n) {
        int had = tape.length();
        if (isOutside(n, had)) {
            return BAD;
        }
        tape.shorten(n);
        return had - n;
    }

    public int poke(int i, int mask) {
        return tape.has(i) ? tape.flip(i, mask) : BAD;
    }

    public int take() {
        tape.become(out);
        return tape.length();
    }

    public int out(int i) {
        return byteOrLength(out, i);
    }

    // ---- squeezing

    public int squeeze() {
        if (!Packet.isPacket(tape)) {
            return NOT;
        }
        squeezer.write(tape, out);
        return out.length();
    }

    public int unfold() {
        boolean well = unfolder.read(tape, 0, Unfolder.BY_WHAT_IS_LEFT);
        unfolder.tell(latest);
        if (!well) {
            return -10 - unfolder.fault();
        }
        out.become(unfolder.packet());
        return out.length();
    }

    public int told(int what) {
        if (what < 0 || what >= latest.length) {
            return BAD;
        }
        return latest[what];
    }

    // ---- frames

    public int slice(int size, int tag) {
        if (size < LEAST_SIZE || size > MOST_SIZE || isOutside(tag, MOST_TAG)) {
            return BAD;
        }
        if (!Packet.isPacket(tape)) {
            return NOT;
        }
        return cutter.divide(tape, size, tag, frames);
    }

    public int frame(int k, int i) {
        return frames.has(k) ? byteOrLength(frames.at(k), i) : BAD;
    }

    public int spoil(int k, int i, int mask) {
        if (!frames.has(k) || !frames.at(k).has(i)) {
            return BAD;
        }
        return frames.at(k).flip(i, mask);
    }

    public int put(int k) {
        if (isOutside(k, frames.size())) {
            return BAD;
        }
        if (tape.length() == 0 || tape.length() > MOST_SIZE) {
            return NOT;
        }
        return frames.store(k, tape) ? frames.size() : FULL;
    }

    public int hear(int k) {
        return frames.has(k) ? receiver.listen(frames.at(k), out) : BAD;
    }

    public int pass(int n) {
        return isOutside(n, 1000) ? BAD : receiver.goOn(n);
    }

    public int count(int what) {
        switch (what) {
            case 0: return receiver.heaps();
            case 1: return receiver.parts();
            case 2: return receiver.bytes();
            case 3: return frames.size();
            case 4: return receiver.whole;
            case 5: return receiver.dropped;
            case 6: return receiver.late;
            case 7: return receiver.anew;
            case 8: return receiver.clock;
            default: return BAD;
        }
    }

    private static boolean isOutside(int number, int most) {
        return number < 0 || number > most;
    }

    private static int byteOrLength(Row row, int i) {
        if (i == -1) {
            return row.length();
        }
        return row.has(i) ? row.at(i) : BAD;
    }

    /** Bytes (0 .. 255) one behind another, up to a number that is fixed when the row is made. */
    private static final class Row {
        private final int[] bytes;
        private int length;

        Row(int most) {
            bytes = new int[most < 0 ? 0 : most];
            length = 0;
        }

        int length() {
            return length;
        }

        boolean has(int i) {
            return i >= 0 && i < length;
        }

        boolean takes(int n) {
            return n <= bytes.length - length;
        }

        int at(int i) {
            return i >= 0 && i < length && i < bytes.length ? bytes[i] : 0;
        }

        void set(int i, int value) {
            if (i >= 0 && i < length && i < bytes.length) {
                bytes[i] = value & 255;
            }
        }

        void add(int value) {
            if (length >= 0 && length < bytes.length) {
                bytes[length] = value & 255;
                length++;
            }
        }

        int flip(int i, int mask) {
            set(i, at(i) ^ mask);
            return at(i);
        }

        void shorten(int n) {
            if (n >= 0 && n < length) {
                length = n;
            }
        }

        void becomeZeros(int n) {
            length = 0;
            for (int i = 0; i < n; i++) {
                add(0);
            }
        }

        void become(Row from) {
            length = 0;
            addAll(from, 0, from.length());
        }

        /** The bytes of another row from start on, ahead of end. */
        void addAll(Row from, int start, int end) {
            for (int i = start; i < end; i++) {
                add(from.at(i));
            }
        }

        /** The n bytes from a place on as one number, the highest first. */
        long number(int from, int n) {
            long number = 0;
            for (int i = 0; i < n; i++) {
                number = number << 8 | at(from + i);
            }
            return number;
        }

        void setNumber(int from, long number, int n) {
            for (int i = 0; i < n; i++) {
                set(from + i, (int) (number >>> 8 * (n - 1 - i)));
            }
        }

        void addNumber(long number, int n) {
            for (int i = 0; i < n; i++) {
                add((int) (number >>> 8 * (n - 1 - i)));
            }
        }
    }

    /** What stands at which place of a PACKET. */
    private static final class Packet {
        static final int BEHIND = 4;
        static final int KIND = 6;
        static final int HOPS = 7;
        static final int SOURCE = 8;
        static final int GOAL = 24;
        static final int PORTS = 40;
        static final int BEHIND_AGAIN = 44;
        static final int CHECK = 46;
        static final int KIND_WITH_PORTS = 17;

        static long firstFour(int t, int l) {
            return 6L << 28 | (long) t << 20 | l;
        }

        static boolean isPacket(Row row) {
            int behind = row.length() - HEAD;
            return behind >= 0 && behind <= MOST_BEHIND && row.at(0) >> 4 == 6
                    && row.number(BEHIND, 2) == behind;
        }

        static boolean hasPorts(Row packet) {
            int behind = packet.length() - HEAD;
            return packet.at(KIND) == KIND_WITH_PORTS && behind >= HEAD_WITH_PORTS - HEAD
                    && packet.number(BEHIND_AGAIN, 2) == behind;
        }

        static int t(Row packet) {
            return (int) (packet.number(0, 4) >>> 20 & 255);
        }

        static int l(Row packet) {
            return (int) (packet.number(0, 4) & 0xfffffL);
        }

        /** How many bytes the squeezed head stands for. */
        static int headOf(Row packet) {
            return hasPorts(packet) ? HEAD_WITH_PORTS : HEAD;
        }
    }

    /** CONTEXTS and LINKS. */
    private static final class Known {
        static final int CONTEXTS = 16;
        static final int SENDER = 0;
        static final int RECEIVER = 1;
        static final int NONE = -1;
        static final long PLAIN = 0xfe80000000000000L;
        /** The six bytes 0, 0, 0, 255, 254, 0 ahead of two that are short. */
        static final long AHEAD_OF_SHORT = 0xfffe00L;

        private static final long OTHER_BIT = 0x0200000000000000L;

        private final boolean[] there = new boolean[CONTEXTS];
        private final long[] contexts = new long[CONTEXTS];
        private long senderOwn = AHEAD_OF_SHORT << 16;
        private long receiverOwn = AHEAD_OF_SHORT << 16;

        boolean isThere(int i) {
            return i >= 0 && i < CONTEXTS && there[i];
        }

        long contextOf(int i) {
            return isThere(i) ? contexts[i] : 0;
        }

        void setContext(int i, boolean isThere, long bytes) {
            if (i >= 0 && i < CONTEXTS) {
                there[i] = isThere;
                contexts[i] = bytes;
            }
        }

        void setLink(int which, boolean isLong, long v) {
            long own = isLong ? v ^ OTHER_BIT : AHEAD_OF_SHORT << 16 | v & 0xffffL;
            if (which == SENDER) {
                senderOwn = own;
            } else {
                receiverOwn = own;
            }
        }

        long own(int which) {
            return which == SENDER ? senderOwn : receiverOwn;
        }

        /** The least CONTEXT that has these eight bytes. */
        int least(long bytes) {
            for (int i = 0; i < CONTEXTS; i++) {
                if (there[i] && contexts[i] == bytes) {
                    return i;
                }
            }
            return NONE;
        }
    }

    /**
     * How an address is told, in the bits of the second byte: 4 SAC + SAM of a SOURCE,
     * 8 M + 4 DAC + DAM of a GOAL.
     */
    private static final class Mode {
        static final int WHOLE = 0;
        static final int EIGHT = 1;
        static final int TWO = 2;
        static final int OWN = 3;
        static final int BY_CONTEXT = 4;
        static final int ZEROS = 4;
        static final int MANY = 8;
        static final int MANY_SIX = 9;
        static final int MANY_FOUR = 10;
        static final int MANY_ONE = 11;

        private static final int[] BYTES = {16, 8, 2, 0, 0, 8, 2, 0, 16, 6, 4, 1};

        static int bytesOf(int mode) {
            return mode >= 0 && mode < BYTES.length ? BYTES[mode] : 0;
        }

        static boolean usesContext(int mode) {
            return mode > ZEROS && mode < MANY;
        }

        static int ofSource(Known known, long first, long last) {
            if (first == 0 && last == 0) {
                return ZEROS;
            }
            return ofOne(known, Known.SENDER, first, last);
        }

        static int ofGoal(Known known, long first, long last) {
            if (first >>> 56 == 255) {
                return ofMany(first, last);
            }
            return ofOne(known, Known.RECEIVER, first, last);
        }

        private static int ofOne(Known known, int which, long first, long last) {
            if (first == Known.PLAIN) {
                return ofLast(known, which, last);
            }
            if (known.least(first) != Known.NONE) {
                return BY_CONTEXT + ofLast(known, which, last);
            }
            return WHOLE;
        }

        private static int ofLast(Known known, int which, long last) {
            if (last == known.own(which)) {
                return OWN;
            }
            return last >>> 16 == Known.AHEAD_OF_SHORT ? TWO : EIGHT;
        }

        private static int ofMany(long first, long last) {
            if ((first & 0xffffffffffffL) != 0 || last >>> 40 != 0) {
                return MANY;
            }
            if (last >>> 24 != 0) {
                return MANY_SIX;
            }
            return last >>> 8 == 0 && (first >>> 48 & 255) == 2 ? MANY_ONE : MANY_FOUR;
        }
    }

    /** Writes what a PACKET is SQUEEZED to. */
    private static final class Squeezer {
        private final Known known;

        Squeezer(Known known) {
            this.known = known;
        }

        /** The row becomes the squeezed packet: how many bytes of it are the head. */
        int write(Row packet, Row to) {
            boolean ports = Packet.hasPorts(packet);
            int traffic = trafficOf(packet);
            int hops = hopsOf(packet.at(Packet.HOPS));
            long first = packet.number(Packet.SOURCE, 8);
            long last = packet.number(Packet.SOURCE + 8, 8);
            long goalFirst = packet.number(Packet.GOAL, 8);
            long goalLast = packet.number(Packet.GOAL + 8, 8);
            int source = Mode.ofSource(known, first, last);
            int goal = Mode.ofGoal(known, goalFirst, goalLast);
            int contexts = 16 * contextOf(source, first) + contextOf(goal, goalFirst);

            to.shorten(0);
            to.add(96 | traffic << 3 | (ports ? 4 : 0) | hops);
            to.add((contexts != 0 ? 128 : 0) | source << 4 | goal);
            if (contexts != 0) {
                to.add(contexts);
            }
            writeTraffic(packet, traffic, to);
            if (!ports) {
                to.add(packet.at(Packet.KIND));
            }
            if (hops == 0) {
                to.add(packet.at(Packet.HOPS));
            }
            writeAddress(source, first, last, to);
            writeAddress(goal, goalFirst, goalLast, to);
            if (ports) {
                writePorts(packet, to);
            }
            int head = to.length();
            to.addAll(packet, Packet.headOf(packet), packet.length());
            return head;
        }

        private int contextOf(int mode, long first) {
            return Mode.usesContext(mode) ? known.least(first) : 0;
        }

        private static int trafficOf(Row packet) {
            int t = Packet.t(packet);
            if (Packet.l(packet) == 0) {
                return t == 0 ? 3 : 2;
            }
            return t >> 2 == 0 ? 1 : 0;
        }

        private static int hopsOf(int hops) {
            switch (hops) {
                case 1: return 1;
                case 64: return 2;
                case 255: return 3;
                default: return 0;
            }
        }

        private static void writeTraffic(Row packet, int traffic, Row to) {
            int t = Packet.t(packet);
            int l = Packet.l(packet);
            int turned = (t & 3) << 6 | t >> 2;
            if (traffic == 0) {
                to.add(turned);
                to.addNumber(l, 3);
            } else if (traffic == 1) {
                to.addNumber(turned << 16 | l, 3);
            } else if (traffic == 2) {
                to.add(turned);
            }
        }

        private static void writeAddress(int mode, long first, long last, Row to) {
            int bytes = Mode.bytesOf(mode);
            if (bytes == 16) {
                to.addNumber(first, 8);
                to.addNumber(last, 8);
            } else if (mode == Mode.MANY_SIX || mode == Mode.MANY_FOUR) {
                to.add((int) (first >>> 48));
                to.addNumber(last, bytes - 1);
            } else {
                to.addNumber(last, bytes);
            }
        }

        private static void writePorts(Row packet, Row to) {
            int one = (int) packet.number(Packet.PORTS, 2);
            int other = (int) packet.number(Packet.PORTS + 2, 2);
            if (one >> 4 == 0xf0b && other >> 4 == 0xf0b) {
                to.add(243);
                to.add((one & 15) << 4 | other & 15);
            } else if (other >> 8 == 240) {
                to.add(241);
                to.addNumber(one, 2);
                to.add(other);
            } else if (one >> 8 == 240) {
                to.add(242);
                to.add(one);
                to.addNumber(other, 2);
            } else {
                to.add(240);
                to.addNumber(one, 2);
                to.addNumber(other, 2);
            }
            to.addNumber(packet.number(Packet.CHECK, 2), 2);
        }
    }

    /** Reads a SQUEEZED packet of any bytes, up to the first FAULT. */
    private static final class Unfolder {
        static final int BY_WHAT_IS_LEFT = -1;

        private final Known known;
        /** A row of its own: what was told before stays where a FAULT is met late. */
        private final Row packet = new Row(MOST_PACKET);
        private int at;
        private int fault;
        private int place;
        private int firstByte;
        private int secondByte;
        private int contexts;
        private int portsForm;
        private int headBytes;

        Unfolder(Known known) {
            this.known = known;
        }

        Row packet() {
            return packet;
        }

        int fault() {
            return fault;
        }

        /** Of the latest read, in the order in which told() is asked for it. */
        void tell(int[] numbers) {
            if (numbers.length < 8) {
                return;
            }
            boolean well = fault == 0;
            numbers[0] = fault;
            numbers[1] = place;
            numbers[2] = well ? traffic() : 0;
            numbers[3] = well ? secondByte >> 7 : 0;
            numbers[4] = well ? source() : 0;
            numbers[5] = well ? goal() : 0;
            numbers[6] = well ? portsForm : 0;
            numbers[7] = well ? headBytes : 0;
        }

        /** Whether the bytes from start on unfold to packet(), with n as told or by what is left. */
        boolean read(Row in, int start, int n) {
            at = start;
            fault = 0;
            place = 0;
            contexts = 0;
            portsForm = -2;
            packet.becomeZeros(HEAD);
            boolean well = readsForm(in) && readsContexts(in) && readsTraffic(in)
                    && readsKind(in) && readsHops(in)
                    && readsAddress(in, source(), Packet.SOURCE)
                    && readsAddress(in, goal(), Packet.GOAL)
                    && readsPorts(in);
            headBytes = at - start;
            return well && readsRest(in, n);
        }

        private boolean fails(int which, int where) {
            fault = which;
            place = where;
            return false;
        }

        private boolean has(Row in, int bytes) {
            return bytes <= in.length() - at || fails(1, in.length());
        }

        /** The next byte, where has() said that there is one. */
        private int next(Row in) {
            int value = in.at(at);
            at++;
            return value;
        }

        private int traffic() {
            return firstByte >> 3 & 3;
        }

        private boolean ports() {
            return (firstByte & 4) != 0;
        }

        private int source() {
            return secondByte >> 4 & 7;
        }

        private int goal() {
            return secondByte & 15;
        }

        private boolean readsForm(Row in) {
            if (!has(in, 1)) {
                return false;
            }
            if (in.at(at) >> 5 != 3) {
                return fails(2, at);
            }
            firstByte = next(in);
            if (!has(in, 1)) {
                return false;
            }
            secondByte = in.at(at);
            if (goal() == Mode.BY_CONTEXT || goal() > Mode.MANY_ONE) {
                return fails(3, at);
            }
            at++;
            return true;
        }

        private boolean readsContexts(Row in) {
            int told = at - 1;
            if (secondByte >> 7 == 1) {
                if (!has(in, 1)) {
                    return false;
                }
                told = at;
                contexts = next(in);
            }
            boolean lacksSource = Mode.usesContext(source()) && !known.isThere(contexts >> 4);
            boolean lacksGoal = Mode.usesContext(goal()) && !known.isThere(contexts & 15);
            return !lacksSource && !lacksGoal || fails(4, told);
        }

        private boolean readsTraffic(Row in) {
            int form = traffic();
            int bytes = form == 0 ? 4 : form == 1 ? 3 : form == 2 ? 1 : 0;
            if (!has(in, bytes)) {
                return false;
            }
            int first = bytes == 0 ? 0 : in.at(at);
            long l = 0;
            int wrong = 0;
            if (form == 0) {
                l = in.number(at + 1, 3);
                wrong = (int) (l >>> 20);
            } else if (form == 1) {
                l = in.number(at, 3) & 0xfffffL;
                wrong = first & 48;
            }
            if (wrong != 0) {
                return fails(5, at);
            }
            int upper = form == 1 ? 0 : first & 63;
            packet.setNumber(0, Packet.firstFour(upper << 2 | first >> 6, (int) l), 4);
            at += bytes;
            return true;
        }

        private boolean readsKind(Row in) {
            if (ports()) {
                packet.set(Packet.KIND, Packet.KIND_WITH_PORTS);
                return true;
            }
            if (!has(in, 1)) {
                return false;
            }
            packet.set(Packet.KIND, next(in));
            return true;
        }

        private boolean readsHops(Row in) {
            int form = firstByte & 3;
            if (form == 0 && !has(in, 1)) {
                return false;
            }
            int hops = form == 0 ? next(in) : form == 1 ? 1 : form == 2 ? 64 : 255;
            packet.set(Packet.HOPS, hops);
            return true;
        }

        private boolean readsAddress(Row in, int mode, int where) {
            int bytes = Mode.bytesOf(mode);
            if (!has(in, bytes)) {
                return false;
            }
            if (bytes == 16) {
                packet.setNumber(where, in.number(at, 8), 8);
                packet.setNumber(where + 8, in.number(at + 8, 8), 8);
            } else if (mode == Mode.MANY_ONE) {
                packet.setNumber(where, 0xff02L, 2);
                packet.set(where + 15, in.at(at));
            } else if (mode > Mode.MANY) {
                packet.setNumber(where, 0xff00L | in.at(at), 2);
                packet.setNumber(where + 8, in.number(at + 1, bytes - 1), 8);
            } else if (mode != Mode.ZEROS) {
                long told = in.number(at, bytes);
                packet.setNumber(where, firstEight(mode, where), 8);
                packet.setNumber(where + 8, lastEight(mode, where, told), 8);
            }
            at += bytes;
            return true;
        }

        private long firstEight(int mode, int where) {
            if (!Mode.usesContext(mode)) {
                return Known.PLAIN;
            }
            return known.contextOf(where == Packet.SOURCE ? contexts >> 4 : contexts & 15);
        }

        private long lastEight(int mode, int where, long told) {
            switch (mode & 3) {
                case Mode.EIGHT: return told;
                case Mode.TWO: return Known.AHEAD_OF_SHORT << 16 | told;
                default: return known.own(where == Packet.SOURCE ? Known.SENDER : Known.RECEIVER);
            }
        }

        private boolean readsPorts(Row in) {
            if (!ports()) {
                return true;
            }
            if (!has(in, 1)) {
                return false;
            }
            int form = in.at(at) - 240;
            if (form < 0 || form > 3) {
                return fails(6, at);
            }
            at++;
            int bytes = form == 0 ? 4 : form == 3 ? 1 : 3;
            if (!has(in, bytes + 2)) {
                return false;
            }
            portsForm = form;
            packet.addNumber(portsOf(form, in.number(at, bytes)), 4);
            packet.addNumber(0, 2);
            packet.addNumber(in.number(at + bytes, 2), 2);
            at += bytes + 2;
            return true;
        }

        /** Both PORTS, the first in the upper two bytes of four. */
        private static long portsOf(int form, long told) {
            switch (form) {
                case 1: return told >> 8 << 16 | 0xf000L | told & 255;
                case 2: return 0xf000L << 16 | told >> 16 << 16 | told & 65535;
                case 3: return (0xf0b0L | told >> 4) << 16 | 0xf0b0L | told & 15;
                default: return told;
            }
        }

        private boolean readsRest(Row in, int n) {
            int behind = n;
            if (n == BY_WHAT_IS_LEFT) {
                behind = in.length() - at + packet.length() - HEAD;
            }
            if (behind > MOST_BEHIND) {
                return fails(7, in.length());
            }
            packet.setNumber(Packet.BEHIND, behind, 2);
            if (ports()) {
                packet.setNumber(Packet.BEHIND_AGAIN, behind, 2);
            }
            packet.addAll(in, at, in.length());
            return true;
        }
    }

    /** FRAMES. */
    private static final class Frames {
        private final Row[] rows = new Row[MOST_FRAMES];
        private int size;

        Frames() {
            for (int k = 0; k < MOST_FRAMES; k++) {
                rows[k] = new Row(MOST_SIZE);
            }
            size = 0;
        }

        int size() {
            return size;
        }

        boolean has(int k) {
            return k >= 0 && k < size;
        }

        /** FRAME k; asked for one that is not there, the first row of all. */
        Row at(int k) {
            return rows[k >= 0 && k < MOST_FRAMES ? k : 0];
        }

        void clear() {
            size = 0;
        }

        /** Whether there was room for FRAME k, one that there is or the next one. */
        boolean store(int k, Row from) {
            if (k < 0 || k > size || k >= MOST_FRAMES) {
                return false;
            }
            rows[k].become(from);
            if (k == size) {
                size++;
            }
            return true;
        }
    }

    /** Cuts a PACKET to FRAMES. */
    private static final class Cutter {
        private static final int FIRST_AHEAD = 4;
        private static final int FURTHER_AHEAD = 5;

        private final Squeezer squeezer;
        private final Row squeezed = new Row(MOST_TAPE);
        private final Row piece = new Row(MOST_SIZE);

        Cutter(Squeezer squeezer) {
            this.squeezer = squeezer;
        }

        /** How many FRAMES there are then, or FULL. */
        int divide(Row packet, int size, int tag, Frames frames) {
            int head = squeezer.write(packet, squeezed);
            if (squeezed.length() <= size) {
                frames.clear();
                frames.store(0, squeezed);
                return frames.size();
            }
            int room = size - FIRST_AHEAD - head;
            if (room < 0) {
                return FULL;
            }
            int more = room / 8 * 8;
            begin(FIRST_MARK, packet.length(), tag);
            piece.addAll(squeezed, 0, head + more);
            frames.clear();
            frames.store(0, piece);
            return divideRest(packet, Packet.headOf(packet) + more, size, tag, frames);
        }

        private int divideRest(Row packet, int start, int size, int tag, Frames frames) {
            int z = packet.length();
            int room = size - FURTHER_AHEAD;
            int place = start;
            for (int k = 1; k < MOST_FRAMES && place < z; k++) {
                int end = z - place <= room ? z : place + room / 8 * 8;
                begin(FURTHER_MARK, z, tag);
                piece.add(place / 8);
                piece.addAll(packet, place, end);
                frames.store(k, piece);
                place = end;
            }
            if (place < z) {
                frames.clear();
                return FULL;
            }
            return frames.size();
        }

        private void begin(int mark, int z, int tag) {
            piece.shorten(0);
            piece.addNumber((long) mark << 8 | z, 2);
            piece.addNumber(tag, 2);
        }
    }

    /** A HEAP: parts of one PACKET, none of which meets another one. */
    private static final class Heap {
        private static final int PLACES = 75;

        private final Row content = new Row(MOST_PACKET);
        /** How many bytes the part has that begins at 8 times the index; 0: none begins there. */
        private final int[] lengths = new int[PLACES];
        private boolean there;
        private int z;
        private int tag;
        private int time;
        private int parts;
        private int bytes;

        boolean isThere() {
            return there;
        }

        boolean isOf(int otherZ, int otherTag) {
            return there && z == otherZ && tag == otherTag;
        }

        boolean beganBy(int latest) {
            return there && time <= latest;
        }

        int parts() {
            return there ? parts : 0;
        }

        int bytes() {
            return there ? bytes : 0;
        }

        Row content() {
            return content;
        }

        void begin(int newZ, int newTag, int now) {
            there = true;
            z = newZ;
            tag = newTag;
            time = now;
            parts = 0;
            bytes = 0;
            content.becomeZeros(newZ);
            for (int i = 0; i < PLACES; i++) {
                lengths[i] = 0;
            }
        }

        void end() {
            there = false;
        }

        boolean hasJust(int place, int length) {
            int i = place / 8;
            return i >= 0 && i < PLACES && lengths[i] == length;
        }

        boolean meets(int place, int length) {
            for (int i = 0; i < PLACES; i++) {
                int begin = 8 * i;
                if (lengths[i] > 0 && begin < place + length && place < begin + lengths[i]) {
                    return true;
                }
            }
            return false;
        }

        void keep(int place, Row from, int start) {
            int length = from.length() - start;
            int i = place / 8;
            if (i < 0 || i >= PLACES) {
                return;
            }
            lengths[i] = length;
            parts++;
            bytes += length;
            for (int k = 0; k < length; k++) {
                content.set(place + k, from.at(start + k));
            }
        }

        /** No part meets another one, so as many bytes as z are all of them. */
        boolean isWhole() {
            return there && bytes == z;
        }
    }

    /** THE RECEIVER: hears FRAMES. */
    private static final class Receiver {
        private static final int MOST_HEAPS = 3;
        private static final int MOST_AGE = 60;
        private static final int DROPPED = 0;
        private static final int KEPT = 1;
        private static final int WHOLE = 2;

        private final Unfolder unfolder;
        private final Heap[] heaps = new Heap[MOST_HEAPS];
        private int clock;
        private int whole;
        private int dropped;
        private int late;
        private int anew;

        Receiver(Unfolder unfolder) {
            this.unfolder = unfolder;
            for (int i = 0; i < MOST_HEAPS; i++) {
                heaps[i] = new Heap();
            }
        }

        int goOn(int n) {
            clock += n;
            return clock;
        }

        int heaps() {
            int heapsThere = 0;
            for (int i = 0; i < MOST_HEAPS; i++) {
                heapsThere += heaps[i].isThere() ? 1 : 0;
            }
            return heapsThere;
        }

        int parts() {
            int parts = 0;
            for (int i = 0; i < MOST_HEAPS; i++) {
                parts += heaps[i].parts();
            }
            return parts;
        }

        int bytes() {
            int bytes = 0;
            for (int i = 0; i < MOST_HEAPS; i++) {
                bytes += heaps[i].bytes();
            }
            return bytes;
        }

        int listen(Row frame, Row out) {
            int answer = DROPPED;
            int first = frame.at(0);
            if (first >> 5 == 3) {
                answer = hearsAll(frame, out);
            } else if (first >> 3 == FIRST_MARK >> 3 && frame.length() >= 5) {
                answer = hearsFirst(frame, out);
            } else if (first >> 3 == FURTHER_MARK >> 3 && frame.length() >= 6) {
                answer = hearsPart(frame, 8 * frame.at(4), frame, 5, out);
            }
            if (answer == WHOLE) {
                whole++;
            } else if (answer == DROPPED) {
                dropped++;
            }
            return answer;
        }

        private int hearsAll(Row frame, Row out) {
            if (!unfolder.read(frame, 0, Unfolder.BY_WHAT_IS_LEFT)) {
                return DROPPED;
            }
            out.become(unfolder.packet());
            return WHOLE;
        }

        private int hearsFirst(Row frame, Row out) {
            int z = zOf(frame);
            // Told apart ahead of unfolding: an n below 0 cannot be written into a PACKET.
            if (z < HEAD || !unfolder.read(frame, 4, z - HEAD)) {
                return DROPPED;
            }
            return hearsPart(frame, 0, unfolder.packet(), 0, out);
        }

        /** The part: the bytes of a row from start on, at a place of the PACKET. */
        private int hearsPart(Row frame, int place, Row from, int start, Row out) {
            int z = zOf(frame);
            int tag = (int) frame.number(2, 2);
            int length = from.length() - start;
            int end = place + length;
            if (z < HEAD || z > MOST_PACKET || end > z || end % 8 != 0 && end != z) {
                return DROPPED;
            }
            dropLateHeaps();
            Heap heap = heaps[indexFor(z, tag)];
            if (!heap.isOf(z, tag)) {
                if (heap.isThere()) {
                    return DROPPED;
                }
                heap.begin(z, tag, clock);
            } else if (heap.hasJust(place, length)) {
                return DROPPED;
            } else if (heap.meets(place, length)) {
                heap.begin(z, tag, clock);
                anew++;
            }
            heap.keep(place, from, start);
            if (!heap.isWhole()) {
                return KEPT;
            }
            out.become(heap.content());
            heap.end();
            return WHOLE;
        }

        private static int zOf(Row frame) {
            return (int) frame.number(0, 2) & 2047;
        }

        private void dropLateHeaps() {
            for (int i = 0; i < MOST_HEAPS; i++) {
                if (heaps[i].beganBy(clock - MOST_AGE)) {
                    heaps[i].end();
                    late++;
                }
            }
        }

        /** The HEAP of a z and a TAG; without one a free one; without that any, which is of others. */
        private int indexFor(int z, int tag) {
            int free = 0;
            for (int i = 0; i < MOST_HEAPS; i++) {
                if (heaps[i].isOf(z, tag)) {
                    return i;
                }
                if (!heaps[i].isThere()) {
                    free = i;
                }
            }
            return free;
        }
    }
}
