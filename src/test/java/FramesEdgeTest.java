/** Each sentence of the Terms on FRAMES and THE RECEIVER. */
final class FramesEdgeTest extends Edges {
    private FramesEdgeTest() {
    }

    public static void main(String[] args) {
        section("Terms 3");
        rows();
        first();
        further();
        heaps();
        heard();
        heardFirst();
        dropped();
        late();
        meeting();
        whole();
        end("FramesEdgeTest");
    }

    // ---- helpers

    /** THE TAPE becomes a PACKET with a head of 34 bytes and one for each of: KIND (always), HOPS, T. */
    private static void large(Used x, int n, int hops, int t) {
        x.cut(0);
        x.head(t, 0, n, 59, hops, NET, 1, NET, 2);
        behind(x, rising(n));
    }

    /** A first FRAME of a z, PLAIN and OWN addresses, and n bytes behind its head. */
    private static int hearFirst(Used x, int z, int tag, int n) {
        int[] b = new int[7 + n];
        System.arraycopy(bytes(192 + z / 256, z % 256, tag / 256, tag % 256, 0x7a, 0x33, 59), 0, b, 0, 7);
        put(x, 0, b);
        return x.hear(0);
    }

    private static void dueHeaps(Used x, int heaps, int parts, int bytes) {
        due("count(0)", x.count(0), heaps);
        due("count(1)", x.count(1), parts);
        due("count(2)", x.count(2), bytes);
    }

    // ---- FRAMES

    private static void rows() {
        edge("FRAMES 0 .. 39 are rows of up to 120 bytes.", x -> {
            type(x, rising(120));
            for (int k = 0; k < 40; k++) {
                due("put(" + k + ")", x.put(k), k + 1);
            }
            due("frame(39, -1)", x.frame(39, -1), 120);
            due("frame(39, 119)", x.frame(39, 119), 120);
            due("frame(39, 120)", x.frame(39, 120), -1);
            due("frame(40, -1)", x.frame(40, -1), -1);
            due("put(40)", x.put(40), -3);
            x.type(0, 1);
            due("121 bytes", x.put(39), -2);
        });
        edge("A PACKET is CUT for a SIZE s (40 .. 120) with a TAG:", x -> {
            small(x, 200);
            due("slice(39, 0)", x.slice(39, 0), -1);
            due("slice(121, 0)", x.slice(121, 0), -1);
            for (int s = 40; s <= 120; s += 8) {
                int n = x.slice(s, 0);
                for (int k = 0; k < n; k++) {
                    int has = x.frame(k, -1);
                    due("FRAME " + k + " has " + has + " for " + s, has > s ? 1 : 0, 0);
                    due("but the last, not much less", has > s - 8 || k == n - 1 ? 1 : 0, 1);
                }
            }
        });
        edge("if SQUEEZED it has at most s bytes, that is the one FRAME.", x -> {
            for (int s = 40; s <= 120; s += 80) {
                small(x, s - 3);
                due("s bytes", x.slice(s, 5), 1);
                due("frame(0, -1)", x.frame(0, -1), s);
                due("it begins with 0 1 1", x.frame(0, 0), 0x7a);
                due("its last one", x.frame(0, s - 1), s - 3);
                due("s - 1 takes less", x.slice(s - 1, 5), s == 40 ? -1 : 2);
                small(x, s - 2);
                due("s + 1 bytes", x.slice(s, 5), 2);
                due("it begins with 1 1 0 0 0", x.frame(0, 0), 192);
            }
            small(x, 0);
            due("the least", x.slice(40, 5), 1);
            dueFrame(x, 0, 0x7a, 0x33, 59);
        });
    }

    private static void first() {
        edge("Else, with z its length unfolded (40 + n): FRAME 0: 192 + z / 256, z modulo 256, TAG (2 bytes),", x -> {
            for (int z : new int[] {81, 255, 256, 511, 512, 600}) {
                Used y = new Used();
                small(y, z - 40);
                due("it is CUT", y.slice(40, z * 100) > 1 ? 1 : 0, 1);
                due("192 + z / 256", y.frame(0, 0), 192 + (z > 511 ? 2 : z > 255 ? 1 : 0));
                due("z modulo 256", y.frame(0, 1), z & 255);
                due("TAG", y.frame(0, 2), z * 100 / 256);
                due("TAG, its lower byte", y.frame(0, 3), z * 100 % 256);
                due("SQUEEZED", y.frame(0, 4), 0x7a);
            }
        });
        edge("then of SQUEEZED the most bytes so that it has at most s and what it stands for of the PACKET is a"
                + " multiple of 8 bytes", x -> {
            small(x, 200);
            for (int s = 40; s <= 60; s++) {
                x.slice(s, 0);
                due("FRAME 0 for " + s, x.frame(0, -1), s < 47 ? 39 : s < 55 ? 47 : 55);
            }
            ports(x, 1, 2, 200);
            for (int s = 40; s <= 60; s++) {
                x.slice(s, 0);
                due("FRAME 0 with PORTS for " + s, x.frame(0, -1), s < 45 ? 37 : s < 53 ? 45 : 53);
            }
        });
        edge("(at least all that came of the 40 bytes, and with PORTS of 48).", x -> {
            large(x, 80, 9, 0);
            due("36 bytes and 4 for 40", x.slice(40, 0), 4);
            due("FRAME 0 has these", x.frame(0, -1), 40);
            due("the next one begins behind 40", x.frame(1, 4), 5);
            large(x, 80, 9, 1);
            due("37 bytes and 4 for 40", x.slice(40, 0), -3);
            due("37 bytes and 4 for 41", x.slice(41, 0), 4);
            due("FRAME 0 has these", x.frame(0, -1), 41);
            withPorts(x, 0xf0c1);
            due("36 bytes, of 48, and 4 for 40", x.slice(40, 0), 4);
            due("FRAME 0 has these", x.frame(0, -1), 40);
            due("the next one begins behind 48", x.frame(1, 4), 6);
            withPorts(x, 0x1234);
            due("37 bytes, of 48, and 4 for 40", x.slice(40, 0), -3);
            due("37 bytes, of 48, and 4 for 41", x.slice(41, 0), 4);
        });
    }

    /** A head of 2, TF 1: 3, HOPS 1, 16 + 8, P 1: 4 (P 0: 5), 2 bytes, and 80 bytes behind it. */
    private static void withPorts(Used x, int other) {
        x.cut(0);
        x.head(1, 1, 88, 17, 9, NET, 1, PLAIN, 2L << 48);
        x.type(0x1111L << 48 | (long) other << 32 | 88L << 16, 8);
        behind(x, rising(80));
    }

    private static void further() {
        edge("Each further one: 224 + z / 256, z modulo 256, TAG, then where it begins by 8,", x -> {
            for (int z : new int[] {81, 255, 256, 511, 512, 600}) {
                Used y = new Used();
                small(y, z - 40);
                int n = y.slice(40, z * 100);
                for (int k = 1; k < n; k++) {
                    due("224 + z / 256", y.frame(k, 0), 224 + (z > 511 ? 2 : z > 255 ? 1 : 0));
                    due("z modulo 256", y.frame(k, 1), z & 255);
                    due("TAG", y.frame(k, 2), z * 100 / 256);
                    due("TAG, its lower byte", y.frame(k, 3), z * 100 % 256);
                    due("where it begins", y.frame(k, 4), 9 + 4 * (k - 1));
                }
            }
        });
        edge("then the PACKET's bytes from there on, all that are left, if s takes them,", x -> {
            small(x, 32 + 35);
            due("35 are left for 40", x.slice(40, 0), 2);
            due("all of them", x.frame(1, -1), 40);
            due("the first", x.frame(1, 5), 33);
            due("the last", x.frame(1, 39), 67);
            small(x, 32 + 36);
            due("36 are left for 40", x.slice(40, 0), 3);
            due("32 of them", x.frame(1, -1), 37);
            due("4 of them", x.frame(2, -1), 9);
            due("the last", x.frame(2, 8), 68);
            small(x, 38);
            due("6 are left", x.slice(40, 0), 2);
            due("all of them", x.frame(1, -1), 11);
            small(x, 112 + 115);
            due("115 are left for 120", x.slice(120, 0), 2);
            due("all of them", x.frame(1, -1), 120);
        });
        edge("else as many multiples of 8 as it takes.", x -> {
            small(x, 200);
            for (int s = 40; s <= 62; s++) {
                x.slice(s, 0);
                due("FRAME 1 for " + s, x.frame(1, -1), s < 45 ? 37 : s < 53 ? 45 : s < 61 ? 53 : 61);
            }
        });
    }

    // ---- THE RECEIVER

    private static void heaps() {
        edge("THE RECEIVER has up to 3 HEAPS,", x -> {
            for (int tag = 0; tag < 3; tag++) {
                due("HEAP " + tag, hearPart(x, 48, tag, 0, 8, 1), 1);
            }
            due("a fourth one", hearPart(x, 48, 3, 0, 8, 1), 0);
            due("a fourth one, of a first FRAME", hearFirst(x, 48, 3, 0), 0);
            dueHeaps(x, 3, 3, 24);
        });
        edge("each of a z, a TAG, with parts of a PACKET,", x -> {
            int[][] all = {{48, 1}, {56, 1}, {304, 1}, {48, 0}, {48, 257}, {48, 65535}};
            for (int[] a : all) {
                Used y = new Used();
                hearPart(y, 48, 1, 0, 40, 1);
                due("z " + a[0] + ", TAG " + a[1], hearPart(y, a[0], a[1], 5, 8, 2), a == all[0] ? 2 : 1);
                dueHeaps(y, a == all[0] ? 0 : 2, a == all[0] ? 0 : 2, a == all[0] ? 0 : 48);
            }
            hearPart(x, 48, 1, 0, 8, 1);
            hearPart(x, 48, 1, 4, 8, 1);
            dueHeaps(x, 1, 2, 16);
        });
        edge("and the time when it began (a clock, 0 at first).", x -> {
            due("at 0", hearPart(x, 48, 1, 0, 8, 1), 1);
            x.pass(30);
            due("at 30", hearPart(x, 48, 2, 0, 8, 1), 1);
            due("one that goes on", hearPart(x, 48, 1, 1, 8, 1), 1);
            x.pass(30);
            due("at 60", hearPart(x, 48, 3, 0, 8, 1), 1);
            due("the first one went, whatever came to it", x.count(6), 1);
            x.pass(30);
            due("at 90", hearPart(x, 48, 3, 1, 8, 1), 1);
            due("the second one went", x.count(6), 2);
            dueHeaps(x, 1, 2, 16);
        });
    }

    private static void heard() {
        edge("A FRAME is HEARD: (it is dropped, 0, where nothing else is told)", x -> {
            int dropped = 0;
            for (int b = 0; b < 256; b++) {
                if (b / 32 == 3) {
                    continue;
                }
                Used y = new Used();
                put(y, 0, b, 48, 0, 0, 0, 1, 2, 3, 4, 5, 6, 7, 8);
                int answer = y.hear(0);
                due("first byte " + b, answer, b >= 224 && b < 227 ? 1 : 0);
                due("count(5)", y.count(5), 1 - answer);
                dropped += 1 - answer;
            }
            due("dropped", dropped, 221);
        });
        edge("first byte / 32 is 3: UNFOLDED; if well, that PACKET is WHOLE.", x -> {
            put(x, 0, 96, 0x33, 0, 0, 0, 0, 59, 9);
            due("96", x.hear(0), 2);
            due("out(-1)", x.out(-1), 40);
            put(x, 0, 127, 0x33, 240, 1, 2, 3, 4, 5, 6, 7);
            due("127", x.hear(0), 2);
            due("n by what is left", x.out(5), 9);
            put(x, 0, 95, 0x33, 59, 0, 0, 0, 0);
            due("95", x.hear(0), 0);
            put(x, 0, 128, 0x33, 59, 0, 0, 0, 0);
            due("128", x.hear(0), 0);
            put(x, 0, 0x7a);
            due("FAULT 1", x.hear(0), 0);
            put(x, 0, 0x7a, 0x34);
            due("FAULT 3", x.hear(0), 0);
            put(x, 0, 0x7a, 0x73);
            due("FAULT 4", x.hear(0), 0);
            put(x, 0, 0x6a, 0x33, 48, 0, 0);
            due("FAULT 5", x.hear(0), 0);
            put(x, 0, 0x7e, 0x33, 1);
            due("FAULT 6", x.hear(0), 0);
            due("out(-1)", x.out(-1), 49);
            dueCounts(x, 0, 0, 0, 1, 2, 7);
            for (int tag = 0; tag < 3; tag++) {
                hearPart(x, 48, tag, 0, 8, 1);
            }
            put(x, 0, 0x7a, 0x33, 59);
            due("with three HEAPS", x.hear(0), 2);
            dueHeaps(x, 3, 3, 24);
        });
        edge("First byte / 8 is 24 (a first one) or 28 (a further one),", x -> {
            for (int b : new int[] {184, 191, 192, 193, 194, 199, 200, 207}) {
                Used y = new Used();
                put(y, 0, b, 48, 0, 0, 0x7a, 0x33, 59, 9, 9, 9, 9, 9, 9, 9, 9);
                due("first byte " + b, y.hear(0), b == 192 ? 2 : b > 192 && b < 195 ? 1 : 0);
            }
            for (int b : new int[] {216, 223, 224, 225, 226, 227, 231, 232, 239, 255}) {
                Used y = new Used();
                put(y, 0, b, 48, 0, 0, 0, 1, 2, 3, 4, 5, 6, 7, 8);
                due("first byte " + b, y.hear(0), b > 223 && b < 227 ? 1 : 0);
            }
            due("a first one is dropped with another z alone", hearFirst(x, 48, 0, 7), 0);
        });
        edge("and it has 5 bytes or more (6, a further one):", x -> {
            int[] first = {192, 40, 0, 0, 0x7a};
            int[] further = {224, 48, 0, 0, 6};
            for (int n = 1; n <= 5; n++) {
                put(x, 0, java.util.Arrays.copyOf(first, n));
                due("a first one of " + n, x.hear(0), 0);
                put(x, 0, java.util.Arrays.copyOf(further, n));
                due("a further one of " + n, x.hear(0), 0);
            }
            dueCounts(x, 0, 0, 0, 1, 0, 10);
            put(x, 0, 224, 49, 0, 0, 6, 1);
            due("a further one of 6", x.hear(0), 1);
            dueHeaps(x, 1, 1, 1);
            put(x, 0, 192, 40, 0, 0, 0x7a, 0x33, 59);
            due("a first one of 7", x.hear(0), 2);
        });
    }

    private static void heardFirst() {
        edge("of a first one the rest behind 4 bytes UNFOLDED (n of it: not by what is left, but z less 40; the bytes"
                + " that are left are those that follow), its place is 0;", x -> {
            for (int z : new int[] {48, 295, 296, 600}) {
                Used y = new Used();
                due("z " + z, hearFirst(y, z, 3, 0), 1);
                due("its part", y.count(2), 40);
                dueN(y, z, 5, false);
                put(y, 0, 192 + z / 256, z % 256, 0, 3, 0x7e, 0x33, 243, 0x12, 10, 11);
                due("with PORTS, z " + z, y.hear(0), z == 48 ? 2 : 1);
                dueN(y, z, 6, true);
            }
            hearFirst(x, 41, 3, 0);
            dueN(x, 41, 5, false);
            hearFirst(x, 72, 3, 16);
            due("56 bytes", x.count(2), 56);
            due("at place 0", hearPart(x, 72, 3, 7, 16, 7), 2);
        });
        edge("of a further one the place is 8 times its fifth byte, the bytes those behind.", x -> {
            hearPart(x, 600, 0, 74, 8, 1);
            for (int place = 0; place < 70; place += 14) {
                hearPart(x, 600, 0, place, 112, 2 + place);
            }
            due("the last part", hearPart(x, 600, 0, 70, 32, 99), 2);
            due("out(-1)", x.out(-1), 600);
            due("out(0)", x.out(0), 2);
            due("out(111)", x.out(111), 2);
            due("out(112)", x.out(112), 16);
            due("out(559)", x.out(559), 58);
            due("out(560)", x.out(560), 99);
            due("out(591)", x.out(591), 99);
            due("out(592)", x.out(592), 1);
            due("out(599)", x.out(599), 1);
            due("a place beyond all", hearPart(x, 600, 0, 255, 8, 1), 0);
            due("a place beyond all", hearPart(x, 600, 0, 128, 8, 1), 0);
        });
    }

    /** Hears the parts that lack behind a place, and looks at what the PACKET tells of n. */
    private static void dueN(Used y, int z, int place, boolean ports) {
        int answer = z == 8 * place ? 2 : 1;
        for (int at = place; 8 * at < z; at += 14) {
            answer = hearPart(y, z, 3, at, Math.min(112, z - 8 * at), 9);
        }
        due("WHOLE", answer, 2);
        due("out(-1)", y.out(-1), z);
        due("n", y.out(4) * 256 + y.out(5), z - 40);
        if (ports) {
            due("n again", y.out(44) * 256 + y.out(45), z - 40);
            due("byte 47", y.out(47), 11);
        }
    }

    // ---- dropped

    private static void dropped() {
        edge("It is dropped if UNFOLDED tells a FAULT,", x -> {
            int[][] all = {{0x7a, 0x33}, {0x80, 0x33, 59}, {0x7a, 0x34, 59}, {0x7a, 0x73, 59}, {0x6a, 0x33, 48, 0, 0, 59},
                {0x7e, 0x33, 239, 0, 0, 0}};
            for (int[] rest : all) {
                x.cut(0);
                x.type(0xc0300000L, 4);
                behind(x, rest);
                x.put(0);
                due("a FAULT", x.hear(0), 0);
            }
            dueCounts(x, 0, 0, 0, 1, 0, 6);
            x.context(0, true, NET);
            put(x, 0, 192, 48, 0, 0, 0x7a, 0x73, 59);
            due("none", x.hear(0), 1);
        });
        edge("z is below 40 or above 600,", x -> {
            for (int z : new int[] {0, 7, 8, 39}) {
                due("z " + z, hearPart(x, z, 0, 0, Math.max(z, 1), 1), 0);
            }
            put(x, 0, 192, 39, 0, 0, 0x7a, 0x33, 59);
            due("a first FRAME, z 39", x.hear(0), 0);
            due("z 40", hearPart(x, 40, 0, 0, 40, 1), 2);
            put(x, 0, 192, 40, 0, 0, 0x7a, 0x33, 59);
            due("a first FRAME, z 40", x.hear(0), 2);
            due("z 601", hearPart(x, 601, 0, 75, 1, 1), 0);
            due("z 601", hearPart(x, 601, 0, 0, 8, 1), 0);
            due("z 2047", hearPart(x, 2047, 0, 0, 8, 1), 0);
            due("a first FRAME, z 601", hearFirst(x, 601, 0, 0), 0);
            dueHeaps(x, 0, 0, 0);
            due("z 600", hearPart(x, 600, 0, 74, 8, 1), 1);
            due("a first FRAME, z 600", hearFirst(x, 600, 0, 0), 1);
        });
        edge("the part would end beyond z,", x -> {
            due("at 41 of 41", hearPart(x, 41, 0, 5, 1, 1), 1);
            due("at 42 of 41", hearPart(x, 41, 1, 5, 2, 1), 0);
            due("at 48 of 41", hearPart(x, 41, 1, 5, 8, 1), 0);
            due("at 49 of 41", hearPart(x, 41, 1, 6, 1, 1), 0);
            due("at 48 of 40", hearPart(x, 40, 1, 0, 48, 1), 0);
            due("a first FRAME, at 48 of 47", hearFirst(x, 47, 1, 8), 0);
            due("a first FRAME, at 41 of 40", hearFirst(x, 40, 1, 1), 0);
            put(x, 0, 192, 47, 0, 1, 0x7e, 0x33, 243, 0x12, 10, 11);
            due("a first FRAME with PORTS, at 48 of 47", x.hear(0), 0);
            dueCounts(x, 1, 1, 1, 1, 0, 7);
        });
        edge("or ends at no multiple of 8 but z.", x -> {
            for (int n = 1; n <= 19; n++) {
                due("8 .. " + (7 + n) + " of 64", hearPart(x, 64, n, 1, n, 1), n % 8 == 0 ? 1 : 0);
            }
            Used y = new Used();
            due("40 .. 41 of 43", hearPart(y, 43, 1, 5, 2, 1), 0);
            due("40 .. 42 of 43", hearPart(y, 43, 1, 5, 3, 1), 1);
            due("a first FRAME of 41 of 48", hearFirst(y, 48, 2, 1), 0);
            due("a first FRAME of 43 of 43", hearFirst(y, 43, 2, 3), 2);
        });
    }

    private static void late() {
        edge("HEAPS that began 60 or more ago go.", x -> {
            for (int ago : new int[] {0, 1, 59, 60, 61, 1000}) {
                Used y = new Used();
                y.pass(7);
                hearPart(y, 48, 1, 0, 8, 1);
                y.pass(ago);
                dueHeaps(y, 1, 1, 8);
                due("another one", hearPart(y, 48, 2, 0, 8, 1), 1);
                dueHeaps(y, ago < 60 ? 2 : 1, ago < 60 ? 2 : 1, ago < 60 ? 16 : 8);
                due("count(6)", y.count(6), ago < 60 ? 0 : 1);
            }
            for (int tag = 0; tag < 3; tag++) {
                hearPart(x, 48, tag, 0, 8, 1);
            }
            x.pass(60);
            put(x, 0, 224, 39, 0, 0, 0, 1);
            due("one that is dropped ahead of that", x.hear(0), 0);
            dueHeaps(x, 3, 3, 24);
            due("its own HEAP went too: just that part is kept", hearPart(x, 48, 1, 0, 8, 1), 1);
            dueHeaps(x, 1, 1, 8);
            due("count(6)", x.count(6), 3);
        });
    }

    // ---- parts

    private static void meeting() {
        edge("If its HEAP has just that part (same place, as many bytes), it is dropped.", x -> {
            hearPart(x, 64, 1, 1, 16, 1);
            due("the same", hearPart(x, 64, 1, 1, 16, 1), 0);
            due("other bytes", hearPart(x, 64, 1, 1, 16, 2), 0);
            dueCounts(x, 1, 1, 16, 1, 0, 2, 0, 0);
            due("of another TAG", hearPart(x, 64, 2, 1, 16, 1), 1);
            due("another place", hearPart(x, 64, 1, 3, 16, 1), 1);
            dueCounts(x, 2, 3, 48, 1, 0, 2, 0, 0);
            due("fewer bytes", hearPart(x, 64, 1, 3, 8, 1), 1);
            dueCounts(x, 2, 2, 24, 1, 0, 2, 0, 1);
            due("more bytes", hearPart(x, 64, 1, 3, 24, 1), 1);
            dueCounts(x, 2, 2, 40, 1, 0, 2, 0, 2);
            x.pass(60);
            for (int place = 60; place < 75; place++) {
                hearPart(x, 600, 3, place, 8, 1);
                due("the same at " + place, hearPart(x, 600, 3, place, 8, 1), 0);
            }
            due("one byte at the end", hearPart(x, 593, 3, 74, 1, 1), 1);
            due("the same", hearPart(x, 593, 3, 74, 1, 1), 0);
            x.pass(60);
            hearPart(x, 64, 2, 1, 16, 1);
            hearFirst(x, 64, 3, 8);
            due("the same first FRAME", hearFirst(x, 64, 3, 8), 0);
            due("a further one in its place", hearPart(x, 64, 3, 0, 48, 5), 0);
            hearPart(x, 64, 2, 0, 8, 1);
            due("the bytes that came first are WHOLE", hearPart(x, 64, 2, 3, 40, 3), 2);
            due("out(23)", x.out(23), 1);
        });
        edge("If the part meets another one, all of the HEAP's parts go, its time is now, and it is the only one.", x -> {
            int[][] all = {{1, 8, 0}, {1, 16, 1}, {2, 8, 1}, {3, 8, 1}, {2, 32, 1}, {1, 32, 1}, {3, 16, 1}, {4, 8, 0},
                {0, 16, 0}, {0, 24, 1}, {4, 16, 0}, {1, 40, 1}};
            for (int[] a : all) {
                Used y = new Used();
                hearPart(y, 64, 1, 2, 16, 1);
                hearPart(y, 64, 1, 7, 8, 1);
                y.pass(50);
                due(a[1] + " bytes from place " + a[0] + " on", hearPart(y, 64, 1, a[0], a[1], 2), 1);
                due("count(7)", y.count(7), a[2]);
                dueHeaps(y, 1, a[2] == 1 ? 1 : 3, a[2] == 1 ? a[1] : 24 + a[1]);
                y.pass(59);
                hearPart(y, 64, 9, 0, 8, 1);
                due("count(6), 59 later", y.count(6), 1 - a[2]);
                y.pass(1);
                hearPart(y, 64, 9, 1, 8, 1);
                due("count(6), 60 later", y.count(6), 1);
            }
            hearPart(x, 43, 1, 5, 3, 1);
            due("by its end, which is z", hearPart(x, 43, 1, 4, 11, 1), 1);
            due("count(7)", x.count(7), 1);
            due("up to it", hearPart(x, 43, 1, 0, 32, 1), 2);
            hearPart(x, 41, 1, 5, 1, 1);
            due("by one byte", hearPart(x, 41, 1, 4, 9, 1), 1);
            due("count(7)", x.count(7), 2);
        });
    }

    private static void whole() {
        edge("Without a HEAP: if there are three, it is dropped; else one begins.", x -> {
            due("one", hearPart(x, 48, 1, 0, 8, 1), 1);
            due("two", hearPart(x, 48, 2, 0, 8, 1), 1);
            due("WHOLE at once, with two", hearPart(x, 48, 9, 0, 48, 1), 2);
            dueHeaps(x, 2, 2, 16);
            due("three", hearPart(x, 48, 3, 0, 8, 1), 1);
            due("four", hearPart(x, 48, 4, 0, 8, 1), 0);
            due("WHOLE at once, with three", hearPart(x, 48, 9, 0, 48, 1), 0);
            dueHeaps(x, 3, 3, 24);
            due("one of the three goes on", hearPart(x, 48, 1, 1, 8, 1), 1);
            due("and goes", hearPart(x, 48, 1, 2, 32, 1), 2);
            due("four", hearPart(x, 48, 4, 0, 8, 1), 1);
            x.pass(60);
            due("all go by time", hearPart(x, 48, 5, 0, 8, 1), 1);
            dueHeaps(x, 1, 1, 8);
        });
        edge("When parts make up all z bytes, the PACKET is WHOLE, and the HEAP goes.", x -> {
            due("the last 1 of 41", hearPart(x, 41, 1, 5, 1, 1), 1);
            due("32 of 41", hearPart(x, 41, 1, 0, 32, 2), 1);
            dueHeaps(x, 1, 2, 33);
            due("8 that lack", hearPart(x, 41, 1, 4, 8, 3), 2);
            dueHeaps(x, 0, 0, 0);
            due("it begins again", hearPart(x, 41, 1, 4, 8, 3), 1);
            dueHeaps(x, 1, 1, 8);
            due("40 of 41", hearPart(x, 41, 2, 0, 40, 2), 1);
            due("all 41 at once", hearPart(x, 41, 3, 0, 41, 2), 2);
        });
        edge("WHOLE: the PACKET comes to THE OUT.", x -> {
            hearPart(x, 41, 1, 0, 40, 1);
            dueOut(x);
            hearPart(x, 41, 1, 5, 1, 2);
            due("out(-1)", x.out(-1), 41);
            due("out(39)", x.out(39), 1);
            due("out(40)", x.out(40), 2);
            hearPart(x, 40, 1, 0, 40, 3);
            due("a shorter one in its place", x.out(-1), 40);
            due("out(39)", x.out(39), 3);
            due("out(40)", x.out(40), -1);
            put(x, 0, 0x7a, 0x33, 59, 4);
            x.hear(0);
            due("a SQUEEZED one in its place", x.out(-1), 41);
            due("out(40)", x.out(40), 4);
            hearPart(x, 40, 1, 0, 8, 5);
            due("a part leaves it", x.out(-1), 41);
        });
    }
}
