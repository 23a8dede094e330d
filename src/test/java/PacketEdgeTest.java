/** Each sentence of the Terms on answers below 0, on a PACKET and on what BOTH ENDS know. */
final class PacketEdgeTest extends Edges {
    private PacketEdgeTest() {
    }

    public static void main(String[] args) {
        answers();
        packets();
        known();
        end("PacketEdgeTest");
    }

    private static void answers() {
        section("Terms");
        edge("Answers below 0, of several BAD ahead of all others,", x -> {
            due("slice(): the SIZE, and no PACKET", x.slice(39, 0), -1);
            due("slice(): the TAG, and no PACKET", x.slice(40, 65536), -1);
            due("put(): k, and an empty TAPE", x.put(1), -1);
            x.head(4, 0, 0, 59, 9, NET, 1, NET, 2);
            due("slice(): the TAG, and FRAME 0 cannot be", x.slice(40, -1), -1);
            fill(x, 640);
            due("put(): k, and a TAPE that is longer", x.put(-1), -1);
            due("type(): n, and no room", x.type(1, 9), -1);
            due("head(): T, and no room", x.head(256, 0, 0, 0, 0, 0, 0, 0, 0), -1);
            x.cut(1);
            for (int k = 0; k < 40; k++) {
                x.put(k);
            }
            due("put(): k, and 40 FRAMES", x.put(41), -1);
        });
        edge("then the first that a call names:", x -> {
            packet(x, 8, NET, 1, NET, 2);
            x.poke(0, 0x04);
            x.poke(7, 9);
            due("a head of 37 bytes", x.slice(40, 0), -3);
            x.poke(5, 1);
            due("slice(): NOT, and FRAME 0 cannot be", x.slice(40, 0), -2);
            type(x, 1);
            for (int k = 0; k < 40; k++) {
                x.put(k);
            }
            due("40 FRAMES", x.put(40), -3);
            x.cut(0);
            due("put(): NOT, and 40 FRAMES", x.put(40), -2);
            fill(x, 121);
            due("put(): NOT, and 40 FRAMES", x.put(40), -2);
        });
        edge("BAD -1 (a number is not as told), NOT -2 (as told), FULL -3.", x -> {
            due("BAD", ShortFrames.BAD, -1);
            due("NOT", ShortFrames.NOT, -2);
            due("FULL", ShortFrames.FULL, -3);
            due("a number is not as told", x.pass(1001), ShortFrames.BAD);
            due("no PACKET", x.squeeze(), ShortFrames.NOT);
            fill(x, 640);
            due("no room", x.type(1, 1), ShortFrames.FULL);
        });
        // RefusedTest looks at all that could change, behind every such answer.
        edge("What answers so changes nothing, but as told.", x -> {
            type(x, 1, 2);
            due("put(1)", x.put(1), -1);
            due("put(0)", x.put(0), 1);
            due("cut(3)", x.cut(3), -1);
            due("poke(2, 1)", x.poke(2, 1), -1);
            due("squeeze()", x.squeeze(), -2);
            due("hear(1)", x.hear(1), -1);
            due("spoil(0, 2, 1)", x.spoil(0, 2, 1), -1);
            due("pass(1001)", x.pass(1001), -1);
            dueTape(x, 1, 2);
            dueOut(x);
            dueFrame(x, 0, 1, 2);
            dueCounts(x, 0, 0, 0, 1, 0, 0, 0, 0, 0);
        });
        edge("Of what has several bytes the highest comes first.", x -> {
            x.type(0x0102, 2);
            x.head(0, 0x30405, 0x0106, 0, 0, 0x0708090a0b0c0d0eL, 0, 0, 0);
            dueTapeAhead(x, 1, 2, 0x60, 3, 4, 5, 1, 6, 0, 0, 7, 8, 9, 10, 11, 12, 13, 14);
            small(x, 248);
            x.slice(120, 0x0203);
            due("z", x.frame(0, 0), 193);
            due("z, its lower byte", x.frame(0, 1), 32);
            due("TAG", x.frame(0, 2), 2);
            due("TAG, its lower byte", x.frame(0, 3), 3);
        });
    }

    private static void dueTapeAhead(Used x, int... bytes) {
        for (int i = 0; i < bytes.length; i++) {
            due("byte " + i + " of THE TAPE", x.poke(i, 0), bytes[i]);
        }
    }

    private static void packets() {
        section("Terms 1");
        edge("A PACKET is 40 bytes and n more (n 0 .. 560):", x -> {
            small(x, 0);
            due("n is 0", x.squeeze(), 3);
            x.cut(39);
            due("39 bytes", x.squeeze(), -2);
            small(x, 1);
            due("n is 1", x.squeeze(), 4);
            small(x, 560);
            due("n is 560", x.squeeze(), 563);
            x.type(0, 1);
            x.poke(5, 1);
            due("n is 561", x.squeeze(), -2);
        });
        edge("0 .. 3: 6 in the highest four bits, T (8 bits), L (20 bits);", x -> {
            int[][] all = {{0, 0, 0x60, 0, 0, 0}, {255, 0, 0x6f, 0xf0, 0, 0}, {0, 1048575, 0x60, 0x0f, 255, 255},
                {0xa5, 0x12345, 0x6a, 0x51, 0x23, 0x45}, {1, 65536, 0x60, 0x11, 0, 0}, {16, 65535, 0x61, 0, 255, 255}};
            for (int[] a : all) {
                x.cut(0);
                x.head(a[0], a[1], 0, 59, 64, PLAIN, 0, PLAIN, 0);
                dueTapeAhead(x, a[2], a[3], a[4], a[5]);
                x.squeeze();
                x.take();
                due("unfold()", x.unfold(), 40);
                for (int i = 0; i < 4; i++) {
                    due("out(" + i + ")", x.out(i), a[2 + i]);
                }
            }
        });
        edge("4, 5: n; 6: KIND (what is behind the 40); 7: HOPS; 8 .. 23 the SOURCE, 24 .. 39 the GOAL, each 16 bytes.", x -> {
            type(x, 0x78, 0x08, 0xfe, 0xfd);
            behind(x, rising(32));
            behind(x, new int[560]);
            due("unfold()", x.unfold(), 600);
            int[] due = {0x60, 0, 0, 0, 2, 0x30, 0xfe, 0xfd};
            for (int i = 0; i < 40; i++) {
                due("out(" + i + ")", x.out(i), i < 8 ? due[i] : i - 7);
            }
        });
        edge("If KIND is 17 and n is 8 or more, and bytes 44, 45 are n, it has PORTS: 40, 41 one, 42, 43 the other one.", x -> {
            ports(x, 0x0102, 0x0304, 0);
            dueSqueezed(x, 0x7e, 0x33, 240, 1, 2, 3, 4, 10, 11);
            for (int kind : new int[] {16, 18, 1, 0x91}) {
                ports(x, 0x0102, 0x0304, 0);
                x.poke(6, 17 ^ kind);
                due("KIND " + kind, x.squeeze(), 11);
                due("NH 0", x.out(0), 0x7a);
            }
            x.cut(0);
            x.head(0, 0, 7, 17, 64, PLAIN, OWN_OF_SHORT_0, PLAIN, OWN_OF_SHORT_0);
            x.type(0x01020304000706L, 7);
            due("n is 7", x.squeeze(), 10);
            due("NH 0", x.out(0), 0x7a);
            for (int bit = 0; bit < 16; bit++) {
                ports(x, 0x0102, 0x0304, 1);
                x.poke(45 - bit / 8, 1 << bit % 8);
                due("bytes 44, 45 are other than n by bit " + bit, x.squeeze(), 12);
                due("NH 0", x.out(0), 0x7a);
            }
            ports(x, 0x0102, 0x0304, 552);
            due("n is 560", x.squeeze(), 3 + 4 + 2 + 552);
            due("NH 1", x.out(0), 0x7e);
        });
    }

    private static void known() {
        edge("BOTH ENDS know: CONTEXTS 0 .. 15, each 8 bytes or none (at first);", x -> {
            for (int i = 0; i < 16; i++) {
                type(x, 0x7a, 0xc7, i, 59);
                due("CONTEXT " + i + " is none", x.unfold(), -14);
                due("CONTEXT " + i + " comes", x.context(i, true, NET + i), 0);
                due("unfold()", x.unfold(), 40);
            }
            for (int i = 0; i < 16; i++) {
                type(x, 0x7a, 0xc7, i, 59);
                x.unfold();
                due("CONTEXT " + i, eight(x, 24), NET + i);
            }
            due("context(16, ..)", x.context(16, true, NET), -1);
            due("context(-1, ..)", x.context(-1, true, NET), -1);
        });
        edge("two LINKS, that of the sender, of the receiver: SHORT (16 bits) or LONG (64 bits; both are SHORT 0 at first).", x -> {
            type(x, 0x7a, 0x33, 59);
            dueOwn(x, OWN_OF_SHORT_0, OWN_OF_SHORT_0);
            x.link(0, false, 65535);
            dueOwn(x, OWN_OF_SHORT_0 + 65535, OWN_OF_SHORT_0);
            x.link(1, false, 65536 + 7);
            dueOwn(x, OWN_OF_SHORT_0 + 65535, OWN_OF_SHORT_0 + 7);
            x.link(0, true, Long.MIN_VALUE + 65536);
            dueOwn(x, 0x8200000000010000L, OWN_OF_SHORT_0 + 7);
            x.link(1, true, Long.MAX_VALUE);
            dueOwn(x, 0x8200000000010000L, 0x7dffffffffffffffL);
            x.link(0, false, 0);
            dueOwn(x, OWN_OF_SHORT_0, 0x7dffffffffffffffL);
        });
        edge("THE OWN eight bytes of a LINK: LONG: it, but the bit 2 of its first byte is another one;", x -> {
            type(x, 0x7a, 0x33, 59);
            long[][] all = {{0, 0x0200000000000000L}, {0x0200000000000000L, 0}, {-1, 0xfdffffffffffffffL},
                {0x0102030405060708L, 0x0302030405060708L}, {0x000000fffe000001L, 0x020000fffe000001L},
                {0x020000fffe000001L, 0x000000fffe000001L}, {0x0400000000000000L, 0x0600000000000000L}};
            for (long[] a : all) {
                x.link(0, true, a[0]);
                x.link(1, true, a[0]);
                dueOwn(x, a[1], a[1]);
            }
        });
        edge("SHORT: 0, 0, 0, 255, 254, 0 and its two.", x -> {
            type(x, 0x7a, 0x33, 59);
            for (int v : new int[] {0, 1, 255, 256, 512, 0x1234, 65535}) {
                x.link(0, false, v);
                x.link(1, false, v ^ 65535);
                dueOwn(x, 0x000000fffe000000L + v, 0x000000fffe000000L + (v ^ 65535));
            }
        });
        edge("PLAIN are addresses whose first eight bytes are 254, 128, 0, 0, 0, 0, 0, 0.", x -> {
            packet(x, 0, PLAIN, OWN_OF_SHORT_0, PLAIN, OWN_OF_SHORT_0);
            due("both are", x.squeeze(), 3);
            for (int bit = 0; bit < 64; bit++) {
                packet(x, 0, PLAIN ^ 1L << bit, OWN_OF_SHORT_0, PLAIN, OWN_OF_SHORT_0);
                due("the SOURCE is not, by bit " + bit, x.squeeze(), 19);
            }
            Used y = new Used();
            for (int bit = 0; bit < 56; bit++) {
                packet(y, 0, PLAIN, OWN_OF_SHORT_0, PLAIN ^ 1L << bit, OWN_OF_SHORT_0);
                due("the GOAL is not, by bit " + bit, y.squeeze(), 19);
            }
        });
    }

    /** THE TAPE is UNFOLDED to two addresses of THE OWN bytes of both LINKS. */
    private static void dueOwn(Used x, long sender, long receiver) {
        due("unfold()", x.unfold(), 40);
        due("THE OWN of the sender", eight(x, 16), sender);
        due("THE OWN of the receiver", eight(x, 32), receiver);
    }
}
