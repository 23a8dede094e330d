import java.util.Arrays;

/** Each sentence of the Terms on what is SQUEEZED, WRITTEN, UNFOLDED. */
final class SqueezedEdgeTest extends Edges {
    private SqueezedEdgeTest() {
    }

    public static void main(String[] args) {
        section("Terms 2");
        bits();
        traffic();
        kindAndHops();
        source();
        goal();
        many();
        ports();
        written();
        writtenAddresses();
        unfoldedEnds();
        unfoldedFirstBytes();
        unfoldedContexts();
        unfoldedTraffic();
        unfoldedPorts();
        unfoldedLengths();
        end("SqueezedEdgeTest");
    }

    // ---- helpers

    private static int[] joined(int[]... parts) {
        int[] all = {};
        for (int[] part : parts) {
            int at = all.length;
            all = Arrays.copyOf(all, at + part.length);
            System.arraycopy(part, 0, all, at, part.length);
        }
        return all;
    }

    /** A PACKET of PLAIN and OWN addresses. */
    private static void headOf(Used x, int t, int l, int kind, int hops) {
        x.cut(0);
        x.head(t, l, 0, kind, hops, PLAIN, OWN_OF_SHORT_0, PLAIN, OWN_OF_SHORT_0);
    }

    private static void dueTraffic(Used x, int t, int l, int first, int... bytes) {
        headOf(x, t, l, 59, 64);
        dueSqueezed(x, joined(bytes(first, 0x33), bytes, bytes(59)));
    }

    private static void dueWords(Used x, int from, int... bytes) {
        for (int i = 0; i < bytes.length; i++) {
            due("out(" + (from + i) + ")", x.out(from + i), bytes[i]);
        }
    }

    /** What these bytes are UNFOLDED to has this SOURCE. */
    private static void dueSource(Used x, long first, long last, int... bytes) {
        type(x, bytes);
        due("unfold()", x.unfold(), 40);
        due("the SOURCE's first eight", eight(x, 8), first);
        due("the SOURCE's last eight", eight(x, 16), last);
    }

    private static void dueGoal(Used x, long first, long last, int... bytes) {
        type(x, bytes);
        due("unfold()", x.unfold(), 40);
        due("the GOAL's first eight", eight(x, 24), first);
        due("the GOAL's last eight", eight(x, 32), last);
    }

    /** SAC and SAM (4 SAC + SAM) of this SOURCE, the GOAL being PLAIN and OWN. */
    private static void dueSourceMode(Used x, String what, long first, long last, int mode) {
        packet(x, 0, first, last, PLAIN, OWN_OF_SHORT_0);
        x.squeeze();
        due(what + ": SAC, SAM", x.out(1) >> 4 & 7, mode);
        x.cut(0);
    }

    /** M, DAC and DAM (8 M + 4 DAC + DAM) of this GOAL, the SOURCE being PLAIN and OWN. */
    private static void dueGoalMode(Used x, String what, long first, long last, int mode) {
        packet(x, 0, PLAIN, OWN_OF_SHORT_0, first, last);
        x.squeeze();
        due(what + ": M, DAC, DAM", x.out(1) & 15, mode);
        x.cut(0);
    }

    private static int bytesOf(int goalMode) {
        return new int[] {16, 8, 2, 0, 0, 8, 2, 0, 16, 6, 4, 1}[goalMode];
    }

    // ---- bits

    private static void bits() {
        edge("SQUEEZED is a PACKET: two bytes, then as they tell; bits from the highest on: 0 1 1 | TF (2) | NH (1) |"
                + " HL (2) C (1) | SAC (1) | SAM (2) | M (1) | DAC (1) | DAM (2)", x -> {
            int[] traffics = {4, 3, 1, 0};
            int[] hops = {0, 1, 64, 255};
            for (int low = 0; low < 32; low++) {
                int ahead = traffics[low >> 3] + ((low & 4) == 0 ? 1 : 0) + ((low & 3) == 0 ? 1 : 0);
                type(x, joined(bytes(0x60 + low, 0x33), new int[ahead]));
                behind(x, (low & 4) == 0 ? new int[0] : bytes(240, 0, 0, 0, 0, 0, 0));
                due("unfold() of first byte " + low, x.unfold(), (low & 4) == 0 ? 40 : 48);
                due("TF", x.told(2), low >> 3);
                due("NH", x.told(6), (low & 4) == 0 ? -2 : 0);
                due("HL", x.out(7), hops[low & 3]);
            }
            Used y = new Used();
            y.context(0, true, NET);
            for (int second = 0; second < 256; second += 7) {
                int goal = second & 15;
                if (goal == 4 || goal > 11) {
                    continue;
                }
                int ahead = (second >> 7) + 1 + bytesOf(second >> 4 & 7) + bytesOf(goal);
                type(y, joined(bytes(0x7a, second), new int[ahead]));
                due("unfold() of second byte " + second, y.unfold(), 40);
                due("C", y.told(3), second >> 7);
                due("SAC, SAM", y.told(4), second >> 4 & 7);
                due("M, DAC, DAM", y.told(5), goal);
            }
        });
        edge("C 1: a byte: 16 times the CONTEXT of the SOURCE, and that of the GOAL;", x -> {
            x.context(1, true, NET + 1);
            x.context(15, true, NET + 15);
            dueSource(x, NET + 1, OWN_OF_SHORT_0, 0x7a, 0xf7, 0x1f, 59);
            due("that of the GOAL", eight(x, 24), NET + 15);
            dueSource(x, NET + 15, OWN_OF_SHORT_0, 0x7a, 0xf7, 0xf1, 59);
            due("that of the GOAL", eight(x, 24), NET + 1);
            packet(x, 0, NET + 15, OWN_OF_SHORT_0, NET + 1, OWN_OF_SHORT_0);
            dueSqueezed(x, 0x7a, 0xf7, 0xf1, 59);
        });
        edge("C 0: both are CONTEXT 0.", x -> {
            x.context(0, true, NET);
            x.context(1, true, NET + 1);
            dueSource(x, NET, OWN_OF_SHORT_0, 0x7a, 0x77, 59);
            due("that of the GOAL", eight(x, 24), NET);
        });
    }

    // ---- TF, NH, HL

    private static void traffic() {
        edge("TF, with E the lowest two bits of T, U its upper six: 0: a byte 64 E + U, then L as 3 bytes"
                + " (its upper four bits 0);", x -> {
            dueTraffic(x, 4, 1, 0x62, 1, 0, 0, 1);
            dueTraffic(x, 255, 1048575, 0x62, 255, 15, 255, 255);
            dueTraffic(x, 252, 65536, 0x62, 63, 1, 0, 0);
            dueTraffic(x, 5, 256, 0x62, 65, 0, 1, 0);
            type(x, 0x62, 0x33, 0, 0, 0, 0, 59);
            due("T and L may be 0", x.unfold(), 40);
            dueWords(x, 0, 0x60, 0, 0, 0);
        });
        edge("1 (U is 0): 64 E and the upper four bits of L, then its other two bytes;", x -> {
            dueTraffic(x, 0, 1, 0x6a, 0, 0, 1);
            dueTraffic(x, 3, 1048575, 0x6a, 0xcf, 255, 255);
            dueTraffic(x, 1, 65536, 0x6a, 0x41, 0, 0);
            dueTraffic(x, 2, 65535, 0x6a, 0x80, 255, 255);
            type(x, 0x6a, 0x33, 0xc0, 0, 0, 59);
            due("L may be 0", x.unfold(), 40);
            dueWords(x, 0, 0x60, 0x30, 0, 0);
        });
        edge("2 (L is 0): the byte 64 E + U;", x -> {
            dueTraffic(x, 1, 0, 0x72, 64);
            dueTraffic(x, 3, 0, 0x72, 192);
            dueTraffic(x, 4, 0, 0x72, 1);
            dueTraffic(x, 255, 0, 0x72, 255);
            type(x, 0x72, 0x33, 0, 59);
            due("T may be 0", x.unfold(), 40);
            dueWords(x, 0, 0x60, 0, 0, 0);
        });
        edge("3 (T, L are 0): none.", x -> dueTraffic(x, 0, 0, 0x7a));
    }

    private static void kindAndHops() {
        edge("NH 0: the byte KIND; 1: it has PORTS (below).", x -> {
            for (int kind : new int[] {0, 1, 17, 254, 255}) {
                headOf(x, 0, 0, kind, 64);
                dueSqueezed(x, 0x7a, 0x33, kind);
            }
            type(x, 0x7e, 0x33, 243, 0, 0, 0);
            due("NH 1", x.unfold(), 48);
            due("KIND", x.out(6), 17);
        });
        edge("HL 0: the byte HOPS; 1, 2, 3: HOPS is 1, 64, 255.", x -> {
            int[] hops = {0, 1, 2, 63, 64, 65, 254, 255};
            int[] hl = {0, 1, 0, 0, 2, 0, 0, 3};
            for (int i = 0; i < hops.length; i++) {
                headOf(x, 0, 0, 59, hops[i]);
                dueSqueezed(x, hl[i] == 0 ? bytes(0x78, 0x33, 59, hops[i]) : bytes(0x78 + hl[i], 0x33, 59));
                if (i == 3) {
                    x = new Used();
                }
            }
            type(x, 0x78, 0x33, 59, 64);
            due("HL 0 may tell 64", x.unfold(), 40);
            due("HOPS", x.out(7), 64);
        });
    }

    // ---- addresses

    private static void source() {
        edge("SOURCE, SAC 0: SAM 0: its 16 bytes;", x -> {
            packet(x, 0, 0x0102030405060708L, 0x090a0b0c0d0e0f10L, PLAIN, OWN_OF_SHORT_0);
            dueSqueezed(x, joined(bytes(0x7a, 0x03, 59), rising(16)));
            dueSource(x, 0x0102030405060708L, 0x090a0b0c0d0e0f10L, joined(bytes(0x7a, 0x03, 59), rising(16)));
            dueSource(x, 0, 0, joined(bytes(0x7a, 0x03, 59), new int[16]));
            dueSource(x, PLAIN, OWN_OF_SHORT_0, joined(bytes(0x7a, 0x03, 59, 0xfe, 0x80), new int[6],
                    bytes(0, 0, 0, 255, 254, 0, 0, 0)));
        });
        edge("PLAIN, and SAM 1: its last eight;", x -> {
            packet(x, 0, PLAIN, 0x0102030405060708L, PLAIN, OWN_OF_SHORT_0);
            dueSqueezed(x, 0x7a, 0x13, 59, 1, 2, 3, 4, 5, 6, 7, 8);
            dueSource(x, PLAIN, 0, 0x7a, 0x13, 59, 0, 0, 0, 0, 0, 0, 0, 0);
            dueSource(x, PLAIN, -1, 0x7a, 0x13, 59, 255, 255, 255, 255, 255, 255, 255, 255);
        });
        edge("2: its last two, the six ahead of them being 0, 0, 0, 255, 254, 0;", x -> {
            packet(x, 0, PLAIN, 0x000000fffe00fffeL, PLAIN, OWN_OF_SHORT_0);
            dueSqueezed(x, 0x7a, 0x23, 59, 255, 254);
            dueSourceMode(x, "as told", PLAIN, 0x000000fffe00fffeL, 2);
            for (int bit = 16; bit < 64; bit++) {
                dueSourceMode(x, "other by bit " + bit, PLAIN, 0x000000fffe00fffeL ^ 1L << bit, 1);
            }
        });
        edge("3: the last eight are THE OWN ones of the sender's LINK.", x -> {
            x.link(0, true, 0x0102030405060708L);
            x.link(1, false, 9);
            packet(x, 0, PLAIN, 0x0302030405060708L, PLAIN, OWN_OF_SHORT_0 + 9);
            dueSqueezed(x, 0x7a, 0x33, 59);
            for (int bit = 0; bit < 64; bit++) {
                dueSourceMode(x, "other by bit " + bit, PLAIN, 0x0302030405060708L ^ 1L << bit, 1);
            }
            dueSourceMode(x, "the receiver's", PLAIN, OWN_OF_SHORT_0 + 9, 2);
        });
        edge("SAC 1: SAM 0: all its bytes are 0;", x -> {
            dueSource(x, 0, 0, 0x7a, 0x43, 59);
            dueSource(x, 0, 0, 0x7a, 0xc3, 0x50, 59);
            dueSourceMode(x, "as told", 0, 0, 4);
            for (int bit = 0; bit < 64; bit++) {
                dueSourceMode(x, "not 0 by bit " + bit, 0, 1L << bit, 0);
            }
            Used y = new Used();
            for (int bit = 0; bit < 64; bit++) {
                dueSourceMode(y, "not 0 by bit " + (64 + bit), 1L << bit, 0, 0);
            }
        });
        edge("1, 2, 3: likewise with the eight bytes of its CONTEXT as the first ones.", x -> {
            x.context(7, true, -1);
            x.link(0, false, 65535);
            packet(x, 0, -1, 0x0102030405060708L, PLAIN, OWN_OF_SHORT_0);
            dueSqueezed(x, 0x7a, 0xd3, 0x70, 59, 1, 2, 3, 4, 5, 6, 7, 8);
            packet(x, 0, -1, OWN_OF_SHORT_0 + 0x0102, PLAIN, OWN_OF_SHORT_0);
            dueSqueezed(x, 0x7a, 0xe3, 0x70, 59, 1, 2);
            packet(x, 0, -1, OWN_OF_SHORT_0 + 65535, PLAIN, OWN_OF_SHORT_0);
            dueSqueezed(x, 0x7a, 0xf3, 0x70, 59);
        });
    }

    private static void goal() {
        edge("GOAL, M 0: by DAC, DAM likewise, with the receiver's LINK", x -> {
            x.context(7, true, NET);
            x.link(0, false, 9);
            x.link(1, true, 0x0102030405060708L);
            packet(x, 0, PLAIN, OWN_OF_SHORT_0 + 9, 0x0102030405060708L, 0x090a0b0c0d0e0f10L);
            dueSqueezed(x, joined(bytes(0x7a, 0x30, 59), rising(16)));
            dueGoal(x, PLAIN, 0x0102030405060708L, 0x7a, 0x31, 59, 1, 2, 3, 4, 5, 6, 7, 8);
            dueGoal(x, PLAIN, OWN_OF_SHORT_0 + 0x0102, 0x7a, 0x32, 59, 1, 2);
            dueGoal(x, PLAIN, 0x0302030405060708L, 0x7a, 0x33, 59);
            dueGoal(x, NET, 0x0102030405060708L, 0x7a, 0xb5, 7, 59, 1, 2, 3, 4, 5, 6, 7, 8);
            dueGoal(x, NET, OWN_OF_SHORT_0 + 0x0102, 0x7a, 0xb6, 7, 59, 1, 2);
            dueGoal(x, NET, 0x0302030405060708L, 0x7a, 0xb7, 7, 59);
            dueGoalMode(x, "the receiver's", PLAIN, 0x0302030405060708L, 3);
            dueGoalMode(x, "the sender's", PLAIN, OWN_OF_SHORT_0 + 9, 2);
            for (int bit = 16; bit < 64; bit++) {
                dueGoalMode(x, "other by bit " + bit, PLAIN, OWN_OF_SHORT_0 + 9 ^ 1L << bit, 1);
            }
        });
        edge("(DAC 1, DAM 0: FAULT 3).", x -> {
            dueFault(x, 3, 1, 0x7a, 0x34, 59);
            dueFault(x, 3, 1, 0x7a, 0xb4, 0, 59);
            x.context(0, true, NET);
            dueFault(x, 3, 1, 0x7a, 0x34, 59);
            dueGoal(x, NET, OWN_OF_SHORT_0, 0x7a, 0x37, 59);
        });
    }

    private static void many() {
        edge("M 1 (its first byte is 255), DAC 0: DAM 0: 16 bytes;", x -> {
            packet(x, 0, PLAIN, OWN_OF_SHORT_0, 0xff02030405060708L, 0x090a0b0c0d0e0f10L);
            dueSqueezed(x, joined(bytes(0x7a, 0x38, 59, 255), Arrays.copyOfRange(rising(16), 1, 16)));
            dueGoalMode(x, "the first byte is 255", 0xff02030405060708L, 0, 8);
            for (int bit = 56; bit < 64; bit++) {
                dueGoalMode(x, "it is not, by bit " + bit, 0xff02030405060708L ^ 1L << bit, 0, 0);
            }
        });
        edge("1: byte 1 and the last five;", x -> {
            packet(x, 0, PLAIN, OWN_OF_SHORT_0, 0xff01L << 48, 0x0203040506L);
            dueSqueezed(x, 0x7a, 0x39, 59, 1, 2, 3, 4, 5, 6);
            packet(x, 0, PLAIN, OWN_OF_SHORT_0, 0xfffeL << 48, 0xffffffffffL);
            dueSqueezed(x, 0x7a, 0x39, 59, 254, 255, 255, 255, 255, 255);
            dueGoal(x, 0xff00L << 48, 0, 0x7a, 0x39, 59, 0, 0, 0, 0, 0, 0);
        });
        edge("2: byte 1 and the last three;", x -> {
            packet(x, 0, PLAIN, OWN_OF_SHORT_0, 0xff01L << 48, 0x020304L);
            dueSqueezed(x, 0x7a, 0x3a, 59, 1, 2, 3, 4);
            packet(x, 0, PLAIN, OWN_OF_SHORT_0, 0xfffeL << 48, 0xffffffL);
            dueSqueezed(x, 0x7a, 0x3a, 59, 254, 255, 255, 255);
            dueGoal(x, 0xff02L << 48, 0, 0x7a, 0x3a, 59, 2, 0, 0, 0);
        });
        edge("3: the last one, byte 1 being 2;", x -> {
            packet(x, 0, PLAIN, OWN_OF_SHORT_0, 0xff02L << 48, 1);
            dueSqueezed(x, 0x7a, 0x3b, 59, 1);
            dueGoal(x, 0xff02L << 48, 0, 0x7a, 0x3b, 59, 0);
            dueGoal(x, 0xff02L << 48, 255, 0x7a, 0x3b, 59, 255);
            for (int one = 0; one < 256; one++) {
                Used y = new Used();
                dueGoalMode(y, "byte 1 is " + one, 0xff00L + one << 48, 0xff, one == 2 ? 11 : 10);
            }
        });
        edge("all others but the first are 0 there.", x -> {
            for (int bit = 0; bit < 112; bit++) {
                Used y = new Used();
                long first = 0xff02L << 48 | (bit < 64 ? 0 : 1L << bit - 64);
                dueGoalMode(y, "bit " + bit, first, bit < 64 ? 1L << bit : 0,
                        bit < 8 ? 11 : bit < 24 ? 10 : bit < 40 ? 9 : 8);
            }
        });
        edge("(DAC 1: FAULT 3.)", x -> {
            x.context(0, true, NET);
            for (int dam = 0; dam < 4; dam++) {
                dueFault(x, 3, 1, 0x7a, 0x3c + dam, 59, 1, 2, 3, 4, 5, 6, 7, 8);
                dueFault(x, 3, 1, 0x7a, 0xbc + dam, 0, 59, 1, 2, 3, 4, 5, 6, 7, 8);
            }
        });
    }

    // ---- PORTS

    private static void duePorts(Used x, int one, int other, int... bytes) {
        ports(x, one, other, 1);
        dueSqueezed(x, joined(bytes(0x7e, 0x33), bytes, bytes(10, 11, 1)));
    }

    /** These bytes of PORTS, which need not be WRITTEN ones, are UNFOLDED to those PORTS. */
    private static void dueUnfoldedPorts(Used x, int one, int other, int... bytes) {
        type(x, joined(bytes(0x7e, 0x33), bytes, bytes(10, 11)));
        due("unfold()", x.unfold(), 48);
        dueWords(x, 40, one >> 8, one & 255, other >> 8, other & 255, 0, 8, 10, 11);
    }

    private static void ports() {
        edge("Behind these, NH 1: a byte 240 + P and the PORTS: P 0: both, 2 bytes each;", x -> {
            duePorts(x, 0xefff, 0xf100, 240, 0xef, 255, 0xf1, 0);
            duePorts(x, 0xf100, 0xefff, 240, 0xf1, 0, 0xef, 255);
            dueUnfoldedPorts(x, 0xf0b0, 0xf0b0, 240, 240, 0xb0, 240, 0xb0);
            dueUnfoldedPorts(x, 0, 65535, 240, 0, 0, 255, 255);
        });
        edge("1: the first as 2 bytes, the other's lowest byte (its upper one is 240);", x -> {
            duePorts(x, 0xefff, 0xf000, 241, 0xef, 255, 0);
            duePorts(x, 0xf100, 0xf0ff, 241, 0xf1, 0, 255);
            dueUnfoldedPorts(x, 0xf0b0, 0xf0b0, 241, 240, 0xb0, 0xb0);
            dueUnfoldedPorts(x, 0xffff, 0xf0ff, 241, 255, 255, 255);
        });
        edge("2: the first's lowest byte (likewise), the other as 2;", x -> {
            duePorts(x, 0xf000, 0xefff, 242, 0, 0xef, 255);
            duePorts(x, 0xf0ff, 0xf100, 242, 255, 0xf1, 0);
            dueUnfoldedPorts(x, 0xf0b0, 0xf0b0, 242, 0xb0, 240, 0xb0);
            dueUnfoldedPorts(x, 0xf0ff, 0xffff, 242, 255, 255, 255);
        });
        edge("3: one byte: 16 times the first's lowest four bits, and the other's"
                + " (of both the upper twelve bits are 0xf0b).", x -> {
            duePorts(x, 0xf0b0, 0xf0bf, 243, 0x0f);
            duePorts(x, 0xf0bf, 0xf0b0, 243, 0xf0);
            Used y = new Used();
            duePorts(y, 0xf0af, 0xf0b0, 241, 240, 0xaf, 0xb0);
            duePorts(y, 0xf0c0, 0xf0b0, 241, 240, 0xc0, 0xb0);
            Used z = new Used();
            duePorts(z, 0xf0b0, 0xf0af, 241, 240, 0xb0, 0xaf);
            duePorts(z, 0xf0b0, 0xf0c0, 241, 240, 0xb0, 0xc0);
        });
        edge("Then two bytes (46, 47 of the PACKET).", x -> {
            type(x, 0x7e, 0x33, 243, 0x12, 255, 254);
            due("unfold()", x.unfold(), 48);
            dueWords(x, 46, 255, 254);
            dueFault(x, 1, 5, 0x7e, 0x33, 243, 0x12, 255);
        });
        edge("Then all that is left of the PACKET.", x -> {
            ports(x, 0xf0b1, 0xf0b2, 0);
            dueSqueezed(x, 0x7e, 0x33, 243, 0x12, 10, 11);
            ports(x, 0xf0b1, 0xf0b2, 1);
            dueSqueezed(x, 0x7e, 0x33, 243, 0x12, 10, 11, 1);
            small(x, 1);
            dueSqueezed(x, 0x7a, 0x33, 59, 1);
            small(x, 560);
            due("of 600", x.squeeze(), 563);
            due("the last one", x.out(562), 560 & 255);
        });
    }

    // ---- WRITTEN

    private static void written() {
        edge("WRITTEN is the shortest of each: TF 3, 2, 1, 0;", x -> {
            int[][] all = {{0, 0, 3}, {1, 0, 2}, {3, 0, 2}, {4, 0, 2}, {255, 0, 2}, {0, 1, 1}, {3, 1, 1}, {0, 1048575, 1},
                {3, 1048575, 1}, {4, 1, 0}, {128, 1, 0}, {255, 1048575, 0}};
            for (int[] a : all) {
                headOf(x, a[0], a[1], 59, 64);
                due("squeeze() of T " + a[0] + ", L " + a[1], x.squeeze(), 3 + new int[] {4, 3, 1, 0}[a[2]]);
                due("TF", x.out(0) >> 3 & 3, a[2]);
            }
        });
        edge("NH 1, if it has PORTS;", x -> {
            ports(x, 1, 2, 0);
            x.squeeze();
            due("it has", x.out(0), 0x7e);
            x.poke(45, 1);
            x.squeeze();
            due("it has none", x.out(0), 0x7a);
        });
        edge("HL;", x -> {
            for (int hops = 0; hops < 256; hops++) {
                Used y = new Used();
                headOf(y, 0, 0, 59, hops);
                int hl = hops == 1 ? 1 : hops == 64 ? 2 : hops == 255 ? 3 : 0;
                due("squeeze()", y.squeeze(), hl == 0 ? 4 : 3);
                due("HL of " + hops, y.out(0) & 3, hl);
            }
        });
        edge("P 3, 2, 1, 0: the first that can be (of P 2, 1: 1 ahead of 2).", x -> {
            int[][] all = {{0xf0b0, 0xf0b0, 3}, {0xf0bf, 0xf0bf, 3}, {0xf0c0, 0xf0c0, 1}, {0xf0b0, 0xf0c0, 1},
                {0xf0c0, 0xf0b0, 1}, {0xf000, 0xf0ff, 1}, {0xf0b0, 0x10b0, 2}, {0x10b0, 0xf0b0, 1}, {0xf0b0, 0xf1b0, 2},
                {0xf1b0, 0xf0b0, 1}, {0xefb0, 0xefb0, 0}, {0xf1b0, 0xf1b0, 0}, {0, 0, 0}, {0xb0, 0xb0, 0}};
            for (int[] a : all) {
                ports(x, a[0], a[1], 0);
                x.squeeze();
                due("P of " + a[0] + ", " + a[1], x.out(2) - 240, a[2]);
            }
        });
    }

    private static void writtenAddresses() {
        edge("An address that is PLAIN: SAM 3, 2, 1, the first that can be;", x -> {
            x.context(0, true, PLAIN);
            for (int which = 0; which < 2; which++) {
                x.link(which, false, 7);
                dueMode(x, which, PLAIN, OWN_OF_SHORT_0 + 7, 3);
                dueMode(x, which, PLAIN, OWN_OF_SHORT_0 + 8, 2);
                dueMode(x, which, PLAIN, 0x010000fffe000007L, 1);
                x.link(which, true, 0x030000fffe000007L);
                dueMode(x, which, PLAIN, 0x010000fffe000007L, 3);
                dueMode(x, which, PLAIN, OWN_OF_SHORT_0 + 7, 2);
                dueMode(x, which, PLAIN, 0, 1);
            }
        });
        edge("else, all bytes 0 (SOURCE): SAC 1, SAM 0;", x -> {
            x.context(0, true, 0);
            x.link(0, true, 0x0200000000000000L);
            dueMode(x, 0, 0, 0, 4);
            x.context(0, false, 0);
            dueMode(x, 0, 0, 0, 4);
            dueMode(x, 1, 0, 0, 0);
        });
        edge("a GOAL that begins with 255: M 1, DAM 3, 2, 1, 0;", x -> {
            x.context(0, true, 0xff02L << 48);
            x.context(1, true, (0xff02L << 48) + 1);
            dueMode(x, 1, 0xff02L << 48, 0, 11);
            dueMode(x, 1, 0xff02L << 48, OWN_OF_SHORT_0 + 1, 9);
            dueMode(x, 1, 0xff02L << 48, 0x100, 10);
            dueMode(x, 1, 0xff02L << 48, 0x1000000, 9);
            dueMode(x, 1, 0xff02L << 48, 0x10000000000L, 8);
            dueMode(x, 1, (0xff02L << 48) + 1, OWN_OF_SHORT_0, 8);
            dueMode(x, 1, 0xfe02L << 48, 0, 0);
            dueMode(x, 0, 0xff02L << 48, 0, 5);
            x.context(0, false, 0);
            dueMode(x, 0, 0xff02L << 48, 0, 0);
        });
        edge("else by the least CONTEXT that has its first eight bytes: SAC 1 (DAC 1), SAM 3, 2, 1;", x -> {
            x.context(3, true, NET);
            x.context(4, true, NET);
            x.context(15, true, NET);
            x.context(0, true, NET + 1);
            for (int which = 0; which < 2; which++) {
                dueMode(x, which, NET, OWN_OF_SHORT_0, 7);
                due("CONTEXT 3", x.out(2), which == 0 ? 0x30 : 3);
                dueMode(x, which, NET, OWN_OF_SHORT_0 + 1, 6);
                dueMode(x, which, NET, OWN_OF_SHORT_0 + 65536, 5);
            }
            x.context(3, false, NET);
            dueMode(x, 0, NET, OWN_OF_SHORT_0, 7);
            due("CONTEXT 4", x.out(2), 0x40);
            x.context(4, true, NET + 2);
            dueMode(x, 1, NET, OWN_OF_SHORT_0, 7);
            due("CONTEXT 15", x.out(2), 15);
        });
        edge("else SAC 0, SAM 0.", x -> {
            x.context(0, true, NET);
            x.context(15, false, NET + 1);
            for (int bit = 0; bit < 48; bit++) {
                dueMode(x, bit & 1, NET ^ 1L << bit, OWN_OF_SHORT_0, 0);
            }
            x.context(0, false, NET);
            dueMode(x, 0, NET, OWN_OF_SHORT_0, 0);
            dueMode(x, 1, NET, OWN_OF_SHORT_0, 0);
            dueMode(x, 1, 0, OWN_OF_SHORT_0, 0);
        });
        edge("C 1 just if a CONTEXT that is used is not 0", x -> {
            x.context(0, true, NET);
            x.context(1, true, NET + 1);
            long[] firsts = {PLAIN, NET, NET + 1};
            for (int k = 0; k < 9; k++) {
                packet(x, 0, firsts[k / 3], OWN_OF_SHORT_0, firsts[k % 3], OWN_OF_SHORT_0);
                boolean c = k / 3 == 2 || k % 3 == 2;
                due("squeeze()", x.squeeze(), c ? 4 : 3);
                due("C", x.out(1) >> 7, c ? 1 : 0);
                due("the byte", c ? x.out(2) : 0, (k / 3 == 2 ? 16 : 0) + (k % 3 == 2 ? 1 : 0));
            }
        });
        edge("(one that is not used is told as 0).", x -> {
            x.context(15, true, NET);
            x.context(14, true, 0);
            x.context(13, true, PLAIN);
            x.context(12, true, 0xff02L << 48);
            packet(x, 0, NET, OWN_OF_SHORT_0, PLAIN, OWN_OF_SHORT_0);
            dueSqueezed(x, 0x7a, 0xf3, 0xf0, 59);
            packet(x, 0, 0, 0, NET, OWN_OF_SHORT_0);
            dueSqueezed(x, 0x7a, 0xc7, 0x0f, 59);
            packet(x, 0, NET, OWN_OF_SHORT_0, 0xff02L << 48, 1);
            dueSqueezed(x, 0x7a, 0xfb, 0xf0, 59, 1);
        });
    }

    /** How the SOURCE (0) or the GOAL (1) is told, the other one being PLAIN and not OWN. */
    private static void dueMode(Used x, int which, long first, long last, int mode) {
        long other = 0x0102030405060708L;
        packet(x, 0, which == 0 ? first : PLAIN, which == 0 ? last : other,
                which == 1 ? first : PLAIN, which == 1 ? last : other);
        x.squeeze();
        due("SAC, SAM or M, DAC, DAM", which == 0 ? x.out(1) >> 4 & 7 : x.out(1) & 15, mode);
    }

    // ---- UNFOLDED

    private static void unfoldedEnds() {
        edge("UNFOLDED: FAULTS, the first that is met (its place: that byte):", x -> {
            dueFault(x, 2, 0, 0x80, 0x34);
            dueFault(x, 3, 1, 0x7a, 0xb4);
            dueFault(x, 3, 1, 0x7a, 0x54, 59);
            dueFault(x, 1, 2, 0x7a, 0xf7);
            dueFault(x, 4, 2, 0x62, 0xf7, 0, 0, 255);
            dueFault(x, 4, 1, 0x62, 0x77, 0, 255, 0, 0);
            dueFault(x, 1, 5, 0x62, 0x33, 0, 255, 0);
            dueFault(x, 5, 2, 0x62, 0x33, 0, 255, 0, 0);
            dueFault(x, 6, 2, 0x7e, 0x33, 0);
            Used y = new Used();
            type(y, 0x7e, 0x33, 0);
            behind(y, new int[600]);
            due("FAULT 6 ahead of 7", y.unfold(), -16);
            due("its place", y.told(1), 2);
        });
        edge("1 bytes end (the end).", x -> {
            x.context(0, true, NET);
            type(x, 0x7a, 0x77, 59);
            due("by a CONTEXT", x.unfold(), 40);
            x.context(0, false, NET);
            dueFault(x, 1, 0);
            dueFault(x, 1, 1, 0x7a);
            int[][] all = {{0x60, 0x80, 0, 0, 0, 0, 0, 59, 9}, {0x69, 0x11, 1, 2, 3, 59}, {0x72, 0x22, 0, 59},
                {0x7b, 0x39, 59}, {0x78, 0x3a, 59, 9}, {0x7a, 0x4b, 59}, {0x7a, 0xd3, 0, 59}, {0x74, 0xe6, 0, 0, 9},
                {0x7e, 0xc3, 0, 240}, {0x7e, 0x33, 241}, {0x7e, 0x33, 242}, {0x7e, 0x33, 243}};
            int[] more = {32, 16, 4, 6, 4, 1, 8, 4 + 7, 4 + 2, 3 + 2, 3 + 2, 1 + 2};
            for (int k = 0; k < all.length; k++) {
                int[] whole = joined(all[k], new int[more[k]]);
                if (k == 7) {
                    whole[9] = 240;
                }
                Used y = new Used();
                y.context(0, true, NET);
                type(y, whole);
                due("unfold() of all", y.unfold(), (whole[0] & 4) == 0 ? 40 : 48);
                due("all is the head", y.told(7), whole.length);
                for (int n = 0; n < whole.length; n++) {
                    y = new Used();
                    y.context(0, true, NET);
                    dueFault(y, 1, n, Arrays.copyOf(whole, n));
                }
            }
        });
    }

    private static void unfoldedFirstBytes() {
        edge("2 the first byte does not begin with 0 1 1.", x -> {
            for (int first = 0; first < 256; first++) {
                dueFault(new Used(), first < 96 || first > 127 ? 2 : 1, first < 96 || first > 127 ? 0 : 1, first);
            }
        });
        edge("3 (at the second byte) as told.", x -> {
            for (int second = 0; second < 256; second++) {
                Used y = new Used();
                y.context(0, true, NET);
                type(y, joined(bytes(0x7a, second), new int[34]));
                boolean fault = (second & 15) == 4 || (second & 15) > 11;
                due("second byte " + second + " is FAULT 3", y.unfold() == -13 ? 1 : 0, fault ? 1 : 0);
                due("its place", y.told(1), fault ? 1 : 0);
            }
        });
    }

    private static void unfoldedContexts() {
        edge("4 (at the C byte; without one at the second byte) a CONTEXT that is used is none (SOURCE ahead).", x -> {
            for (int second = 0; second < 256; second++) {
                Used y = new Used();
                y.context(1, true, NET);
                type(y, joined(bytes(0x7a, second), new int[34]));
                boolean used = (second >> 4 & 7) > 4 || (second & 15) > 4 && (second & 15) < 8;
                boolean fault = used && (second & 15) != 4 && (second & 15) < 12;
                due("second byte " + second + " is FAULT 4", y.unfold() == -14 ? 1 : 0, fault ? 1 : 0);
                due("its place", y.told(0) == 4 ? y.told(1) : 0, fault ? 1 + (second >> 7) : 0);
            }
            x.context(1, true, NET);
            dueFault(x, 4, 2, 0x7a, 0xf7, 0x01, 59);
            dueFault(x, 4, 2, 0x7a, 0xf7, 0x10, 59);
            dueFault(x, 4, 2, 0x7a, 0xf7, 0x12, 59);
            dueFault(x, 4, 2, 0x7a, 0xf7, 0x21, 59);
            dueFault(x, 4, 1, 0x7a, 0x77, 59);
            dueSource(x, NET, OWN_OF_SHORT_0, 0x7a, 0xf7, 0x11, 59);
            dueSource(x, NET, OWN_OF_SHORT_0, 0x7a, 0xf3, 0x1f, 59);
            dueGoal(x, NET, OWN_OF_SHORT_0, 0x7a, 0xb7, 0xf1, 59);
        });
    }

    private static void unfoldedTraffic() {
        edge("5 (at the TF's first byte, when all of these are there) bits that are to be 0 are not (of TF 0 the upper"
                + " four of L's bytes; of TF 1 the bits 32, 16 of the first one).", x -> {
            for (int bit = 0; bit < 8; bit++) {
                Used y = new Used();
                y.context(0, true, NET);
                dueTrafficFault(y, bit > 3, 0x62, 0, 1 << bit, 0, 0);
                dueTrafficFault(y, false, 0x62, 1 << bit, 0, 0, 0);
                dueTrafficFault(y, false, 0x62, 0, 0, 1 << bit, 1 << bit);
                dueTrafficFault(y, bit == 4 || bit == 5, 0x6a, 1 << bit, 0, 0);
                dueTrafficFault(y, false, 0x6a, 0, 1 << bit, 1 << bit);
                dueTrafficFault(y, false, 0x72, 1 << bit);
            }
            dueFault(x, 1, 2, 0x62, 0x33);
            dueFault(x, 1, 4, 0x62, 0x33, 0, 255);
            dueFault(x, 1, 5, 0x62, 0x33, 0, 255, 0);
            dueFault(x, 5, 2, 0x62, 0x33, 0, 255, 0, 0);
            dueFault(x, 1, 3, 0x6a, 0x33, 255);
            dueFault(x, 1, 4, 0x6a, 0x33, 255, 0);
            dueFault(x, 5, 2, 0x6a, 0x33, 255, 0, 0);
        });
    }

    /** The bytes of a TF, without a C byte and behind one. */
    private static void dueTrafficFault(Used x, boolean fault, int first, int... bytes) {
        for (int c = 0; c < 2; c++) {
            type(x, joined(bytes(first, 0x33 + 128 * c), new int[c], bytes, bytes(59)));
            due("unfold() of " + Arrays.toString(bytes), x.unfold(), fault ? -15 : 40);
            due("its place", x.told(1), fault ? 2 + c : 0);
        }
    }

    private static void unfoldedPorts() {
        edge("6 (at that byte) of NH 1: not 240 .. 243.", x -> {
            for (int p = 0; p < 256; p++) {
                Used y = new Used();
                type(y, joined(bytes(0x7e, 0x32, 1, 2, p), new int[6]));
                boolean fault = p < 240 || p > 243;
                due("unfold() of " + p, y.unfold(), fault ? -16 : 48 + new int[] {0, 1, 1, 3}[p & 3]);
                due("its place", y.told(1), fault ? 4 : 0);
            }
            dueFault(x, 1, 2, 0x7e, 0x33);
            dueFault(x, 6, 2, 0x7e, 0x33, 239);
            dueFault(x, 1, 3, 0x7e, 0x33, 240);
            dueFault(x, 1, 3, 0x7e, 0x33, 243);
            dueFault(x, 6, 2, 0x7e, 0x33, 244);
        });
    }

    private static void unfoldedLengths() {
        edge("7 (the end) the PACKET would have n above 560.", x -> {
            type(x, 0x7a, 0x33, 59);
            behind(x, new int[560]);
            due("n is 560", x.unfold(), 600);
            x.type(0, 1);
            due("n is 561", x.unfold(), -17);
            due("the end", x.told(1), 564);
            behind(x, new int[76]);
            due("n is 637", x.unfold(), -17);
            due("the end", x.told(1), 640);
            type(x, 0x7e, 0x33, 243, 0, 0, 0);
            behind(x, new int[552]);
            due("n is 560, with PORTS", x.unfold(), 600);
            x.type(0, 1);
            due("n is 561, with PORTS", x.unfold(), -17);
            due("the end", x.told(1), 559);
        });
        edge("n is how many bytes are left (and 8 with PORTS, told in bytes 44, 45 too).", x -> {
            for (int left : new int[] {0, 1, 247, 248, 255, 256, 552}) {
                Used y = new Used();
                type(y, 0x7a, 0x33, 59);
                behind(y, new int[left]);
                due("unfold()", y.unfold(), 40 + left);
                dueWords(y, 4, left / 256, left % 256);
                type(y, 0x7e, 0x33, 243, 0, 10, 11);
                behind(y, new int[left]);
                due("unfold(), with PORTS", y.unfold(), 48 + left);
                dueWords(y, 4, (8 + left) / 256, (8 + left) % 256);
                dueWords(y, 44, (8 + left) / 256, (8 + left) % 256, 10, 11);
            }
        });
    }
}
