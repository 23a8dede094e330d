/** Each sentence of the promises 1 to 19, and what it says at its edges. */
final class PromiseEdgeTest extends Edges {
    private PromiseEdgeTest() {
    }

    public static void main(String[] args) {
        newObject();
        context();
        link();
        type();
        head();
        cut();
        poke();
        take();
        out();
        squeeze();
        unfold();
        told();
        toldRefused();
        slice();
        sliceRefused();
        frame();
        spoil();
        put();
        putRefused();
        hear();
        pass();
        count();
        countAll();
        end("PromiseEdgeTest");
    }

    // ---- 1

    private static void newObject() {
        section("Promise 1");
        edge("No CONTEXTS;", x -> {
            for (int i = 0; i < 16; i++) {
                dueFault(x, 4, 2, 0x7a, 0xf3, 16 * i, 59);
                due("context(" + i + ", false, 0)", x.context(i, false, 0), 0);
            }
        });
        edge("both LINKS SHORT 0;", x -> {
            type(x, 0x7a, 0x33, 59);
            due("unfold()", x.unfold(), 40);
            due("of the sender", eight(x, 16), 0x000000fffe000000L);
            due("of the receiver", eight(x, 32), 0x000000fffe000000L);
        });
        edge("THE TAPE, THE OUT, FRAMES are empty;", x -> {
            due("cut(1)", x.cut(1), -1);
            due("poke(0, 0)", x.poke(0, 0), -1);
            dueOut(x);
            due("count(3)", x.count(3), 0);
            due("frame(0, -1)", x.frame(0, -1), -1);
            due("the first byte", x.type(1, 1), 1);
        });
        edge("no HEAPS, the clock is 0.", x -> {
            dueCounts(x, 0, 0, 0, 0, 0, 0, 0, 0, 0);
            due("pass(0)", x.pass(0), 0);
        });
    }

    // ---- 2, 3

    private static void context() {
        section("Promise 2");
        edge("A CONTEXT's eight bytes (there true; of a long), or it is none:", x -> {
            for (long v : LONGS) {
                x.context(15, true, v);
                type(x, 0x7a, 0xf3, 0xf0, 59);
                due("unfold()", x.unfold(), 40);
                due("its eight bytes", eight(x, 8), v);
                x.context(15, false, v);
                due("none", x.unfold(), -14);
            }
        });
        edge("1, if it was there, else 0.", x -> {
            for (int i = 0; i < 16; i += 15) {
                due("none, none still", x.context(i, false, 1), 0);
                due("comes", x.context(i, true, 0), 0);
                due("another one", x.context(i, true, 0), 1);
                due("goes", x.context(i, false, 0), 1);
                due("went", x.context(i, false, 0), 0);
                due("comes again", x.context(i, true, 0), 0);
                due("the next one is another one", x.context(i == 0 ? 1 : 14, false, 0), 0);
            }
        });
        edge("BAD.", x -> {
            for (int i : new int[] {-1, 16, LEAST, MOST}) {
                due("context(" + i + ", true, 1)", x.context(i, true, 1), -1);
                due("context(" + i + ", false, 1)", x.context(i, false, 1), -1);
            }
            for (int i = 0; i < 16; i++) {
                due("context(" + i + ", true, 1)", x.context(i, true, 1), 0);
            }
        });
    }

    private static void link() {
        section("Promise 3");
        edge("A LINK (0 the sender's, 1 the receiver's) is LONG or SHORT (the lowest 16 bits of v): 1.", x -> {
            long[] links = {OWN_OF_SHORT_0, OWN_OF_SHORT_0};
            type(x, 0x7a, 0x33, 59);
            for (int k = 0; k < 2 * LONGS.length; k++) {
                boolean isLong = k % 3 == 1;
                long v = LONGS[k / 2];
                due("link(" + k % 2 + ", " + isLong + ", " + v + ")", x.link(k % 2, isLong, v), 1);
                links[k % 2] = isLong ? v ^ 0x0200000000000000L : OWN_OF_SHORT_0 + (v & 65535);
                due("unfold()", x.unfold(), 40);
                due("the sender's", eight(x, 16), links[0]);
                due("the receiver's", eight(x, 32), links[1]);
            }
        });
        edge("BAD.", x -> {
            for (int which : new int[] {-1, 2, 3, LEAST, MOST}) {
                due("link(" + which + ", true, 1)", x.link(which, true, 1), -1);
                due("link(" + which + ", false, 1)", x.link(which, false, 1), -1);
            }
            due("link(0, true, 1)", x.link(0, true, 1), 1);
            due("link(1, false, 1)", x.link(1, false, 1), 1);
        });
    }

    // ---- 4 to 9

    private static void type() {
        section("Promise 4");
        edge("The n lowest bytes (1 .. 8) of w, of these the highest first, come behind THE TAPE:", x -> {
            x.type(0x8182838485868788L, 1);
            x.type(0x8182838485868788L, 8);
            x.type(0x8182838485868788L, 2);
            x.type(-1, 1);
            x.type(Long.MIN_VALUE, 8);
            dueTape(x, 0x88, 0x81, 0x82, 0x83, 0x84, 0x85, 0x86, 0x87, 0x88, 0x87, 0x88, 0xff, 0x80, 0, 0, 0, 0, 0, 0, 0);
        });
        edge("how many it has.", x -> {
            int has = 0;
            for (int n = 1; n <= 8; n++) {
                has += n;
                due("type(0, " + n + ")", x.type(0, n), has);
            }
        });
        edge("BAD;", x -> {
            for (int n : new int[] {0, 9, -1, LEAST, MOST}) {
                due("type(1, " + n + ")", x.type(1, n), -1);
            }
            due("nothing came", x.cut(0), 0);
        });
        edge("FULL: 640.", x -> {
            fill(x, 632);
            due("8 behind 632", x.type(1, 8), 640);
            due("1 behind 640", x.type(1, 1), -3);
            due("8 behind 640", x.type(1, 8), -3);
            x.cut(633);
            due("8 behind 633", x.type(1, 8), -3);
            due("7 behind 633", x.type(1, 7), 640);
            x.cut(639);
            due("2 behind 639", x.type(1, 2), -3);
            due("1 behind 639", x.type(0x77, 1), 640);
            due("the last one", x.poke(639, 0), 0x77);
        });
    }

    private static int headOf(Used x, int... five) {
        return x.head(five[0], five[1], five[2], five[3], five[4], 1, 2, 3, 4);
    }

    /** The number i of a head's five may be 0 to most and nothing else. */
    private static void dueRange(Used x, int i, int most) {
        for (int wrong : new int[] {-1, most + 1, LEAST, MOST}) {
            int[] five = new int[5];
            five[i] = wrong;
            due("number " + i + " of the head is " + wrong, headOf(x, five), -1);
        }
        int[] five = new int[5];
        int had = x.cut(0);
        due("number " + i + " is 0", headOf(x, five), 40);
        five[i] = most;
        due("number " + i + " is " + most, headOf(x, five), 80);
        due("none had come", had, 0);
        x.cut(0);
    }

    private static void head() {
        section("Promise 5");
        edge("A PACKET head comes behind THE TAPE: 6, T, L, n, KIND, HOPS, and the four halves of SOURCE and GOAL:"
                + " how many THE TAPE has.", x -> {
            x.type(7, 1);
            due("head(..)", x.head(0x12, 0x34567, 0x0189, 0xab, 0xcd, LONGS[8], -1, LONGS[9], Long.MIN_VALUE), 41);
            dueTape(x, 7, 0x61, 0x23, 0x45, 0x67, 1, 0x89, 0xab, 0xcd, 1, 2, 3, 4, 5, 6, 7, 8,
                    255, 255, 255, 255, 255, 255, 255, 255, 0x81, 0x82, 0x83, 0x84, 0x85, 0x86, 0x87, 0x88,
                    0x80, 0, 0, 0, 0, 0, 0, 0);
        });
        edge("BAD: T 0 .. 255,", x -> dueRange(x, 0, 255));
        edge("L 0 .. 1048575,", x -> dueRange(x, 1, 1048575));
        edge("n 0 .. 560,", x -> dueRange(x, 2, 560));
        edge("KIND, HOPS 0 .. 255;", x -> {
            dueRange(x, 3, 255);
            dueRange(x, 4, 255);
        });
        edge("FULL.", x -> {
            fill(x, 601);
            due("behind 601", headOf(x, 0, 0, 0, 0, 0), -3);
            due("601 still", x.cut(600), 1);
            due("behind 600", headOf(x, 0, 0, 0, 0, 0), 640);
            due("behind 640", headOf(x, 0, 0, 0, 0, 0), -3);
        });
    }

    private static void cut() {
        section("Promise 6");
        edge("THE TAPE has its first n bytes: how many went.", x -> {
            due("of none", x.cut(0), 0);
            type(x, 1, 2, 3, 4);
            due("cut(4) of 4", x.cut(4), 0);
            due("cut(3) of 4", x.cut(3), 1);
            dueTape(x, 1, 2, 3);
            due("cut(0) of 3", x.cut(0), 3);
            dueTape(x);
            fill(x, 640);
            due("cut(0) of 640", x.cut(0), 640);
        });
        edge("BAD.", x -> {
            due("cut(1) of none", x.cut(1), -1);
            due("cut(-1) of none", x.cut(-1), -1);
            type(x, 1, 2, 3, 4);
            for (int n : new int[] {-1, 5, LEAST, MOST}) {
                due("cut(" + n + ") of 4", x.cut(n), -1);
            }
            dueTape(x, 1, 2, 3, 4);
            fill(x, 640);
            due("cut(641)", x.cut(641), -1);
        });
    }

    private static void poke() {
        section("Promise 7");
        edge("Byte i of THE TAPE becomes another one: it xor the lowest byte of a mask: that.", x -> {
            type(x, 0x0f, 0xf0, 0);
            due("mask 0", x.poke(0, 0), 0x0f);
            due("mask 255", x.poke(0, 255), 0xf0);
            due("mask 256", x.poke(1, 256), 0xf0);
            due("mask 257", x.poke(1, 257), 0xf1);
            due("mask -1", x.poke(2, -1), 255);
            due("the least mask", x.poke(2, LEAST), 255);
            due("the greatest mask", x.poke(2, MOST), 0);
            dueTape(x, 0xf0, 0xf1, 0);
        });
        edge("BAD.", x -> {
            due("poke(0, 1) of none", x.poke(0, 1), -1);
            type(x, 1, 2);
            for (int i : new int[] {-1, 2, LEAST, MOST}) {
                due("poke(" + i + ", 1) of 2", x.poke(i, 1), -1);
            }
            x.cut(1);
            due("a byte that went", x.poke(1, 1), -1);
            dueTape(x, 1);
        });
    }

    private static void take() {
        section("Promise 8");
        edge("THE OUT comes in place of THE TAPE: how many bytes.", x -> {
            type(x, 1, 2, 3);
            due("of an empty one", x.take(), 0);
            dueTape(x);
            small(x, 1);
            x.squeeze();
            due("a short one in place of a long one", x.take(), 4);
            dueTape(x, 0x7a, 0x33, 59, 1);
            due("once more", x.take(), 4);
            type(x, 0x7a, 0x33, 59);
            behind(x, new int[560]);
            x.unfold();
            due("the longest", x.take(), 600);
            due("its last byte", x.poke(599, 0), 0);
            due("none behind", x.poke(600, 0), -1);
        });
    }

    private static void out() {
        section("Promise 9");
        edge("Byte i of THE OUT;", x -> {
            small(x, 2);
            x.squeeze();
            int[] due = {0x7a, 0x33, 59, 1, 2};
            for (int i = 0; i < due.length; i++) {
                due("out(" + i + ")", x.out(i), due[i]);
            }
        });
        edge("i = -1: how many.", x -> {
            due("of none", x.out(-1), 0);
            small(x, 2);
            x.squeeze();
            due("of 5", x.out(-1), 5);
            type(x, 0x7a, 0x33, 59);
            behind(x, new int[560]);
            x.unfold();
            due("of 600", x.out(-1), 600);
        });
        edge("BAD.", x -> {
            due("out(0) of none", x.out(0), -1);
            small(x, 2);
            x.squeeze();
            for (int i : new int[] {-2, 5, 600, 640, LEAST, MOST}) {
                due("out(" + i + ") of 5", x.out(i), -1);
            }
        });
    }

    // ---- 10, 11

    private static void squeeze() {
        section("Promise 10");
        edge("THE TAPE, a PACKET, is SQUEEZED to THE OUT: how many bytes.", x -> {
            small(x, 0);
            due("squeeze()", x.squeeze(), 3);
            dueOut(x, 0x7a, 0x33, 59);
            due("THE TAPE stays", x.poke(39, 0), 0);
            due("all of it", x.poke(40, 0), -1);
            x.cut(0);
            x.head(255, 1, 560, 1, 2, NET, 1, NET, 2);
            behind(x, new int[560]);
            due("the longest", x.squeeze(), 600);
            due("out(599)", x.out(599), 0);
            due("out(600)", x.out(600), -1);
        });
        edge("NOT: it is none (fewer than 40 bytes,", x -> {
            due("of none", x.squeeze(), -2);
            x.type(0x60, 1);
            due("of 1", x.squeeze(), -2);
            small(x, 0);
            x.cut(39);
            due("of 39", x.squeeze(), -2);
            small(x, 0);
            due("of 40", x.squeeze(), 3);
        });
        edge("not 6,", x -> {
            for (int is = 0; is < 16; is++) {
                small(x, 0);
                x.poke(0, (6 ^ is) << 4);
                due(is + " in the highest four bits", x.squeeze(), is == 6 ? 3 : -2);
            }
        });
        edge("n is not how many are behind,", x -> {
            small(x, 3);
            for (int bit = 0; bit < 16; bit++) {
                x.poke(5 - bit / 8, 1 << bit % 8);
                due("n less or more by bit " + bit, x.squeeze(), -2);
                x.poke(5 - bit / 8, 1 << bit % 8);
            }
            due("n is 3", x.squeeze(), 6);
            x.type(0, 1);
            due("one more is behind", x.squeeze(), -2);
            x.cut(42);
            due("one less is behind", x.squeeze(), -2);
        });
        edge("or above 560).", x -> {
            small(x, 560);
            due("n is 560", x.squeeze(), 563);
            x.type(0, 1);
            x.poke(5, 1);
            due("n is 561", x.squeeze(), -2);
            behind(x, new int[39]);
            x.poke(5, 0x69);
            due("n is 600", x.squeeze(), -2);
            due("THE OUT stays", x.out(-1), 563);
        });
    }

    private static void unfold() {
        section("Promise 11");
        edge("THE TAPE is UNFOLDED to THE OUT: how many bytes;", x -> {
            type(x, 0x7a, 0x33, 59);
            due("n is 0", x.unfold(), 40);
            due("out(-1)", x.out(-1), 40);
            behind(x, new int[560]);
            due("n is 560", x.unfold(), 600);
            due("THE TAPE stays", x.cut(563), 0);
            type(x, 0x7a, 0x33, 59, 9);
            due("n is 1", x.unfold(), 41);
            due("out(40)", x.out(40), 9);
        });
        edge("-10 less the FAULT", x -> {
            int[][] all = {{0x7a}, {0x80}, {0x7a, 0x34}, {0x7a, 0x53}, {0x6a, 0x33, 32, 0, 0}, {0x7e, 0x33, 0}};
            for (int i = 0; i < all.length; i++) {
                type(x, all[i]);
                due("FAULT " + (i + 1), x.unfold(), -11 - i);
                due("told(0)", x.told(0), i + 1);
            }
            type(x, 0x7a, 0x33, 59);
            behind(x, new int[561]);
            due("FAULT 7", x.unfold(), -17);
        });
        edge("(THE OUT stays).", x -> {
            x.unfold();
            dueOut(x);
            small(x, 2);
            x.squeeze();
            int[][] all = {{}, {0x7a}, {0x80}, {0x7a, 0x34}, {0x7a, 0x53}, {0x6a, 0x33, 32, 0, 0}, {0x7e, 0x33, 0}};
            for (int[] b : all) {
                type(x, b);
                due("a FAULT is told", x.unfold() < -10 ? 1 : 0, 1);
                dueOut(x, 0x7a, 0x33, 59, 1, 2);
            }
            type(x, 0x7a, 0x33, 59);
            behind(x, new int[561]);
            x.unfold();
            dueOut(x, 0x7a, 0x33, 59, 1, 2);
        });
    }

    // ---- 12

    private static void told() {
        section("Promise 12");
        edge("Of the latest unfold():", x -> {
            type(x, 0x7a, 0x33, 59);
            x.unfold();
            type(x, 0x72, 0x43, 1, 59);
            x.unfold();
            int[] latest = {0, 0, 2, 0, 4, 3, -2, 4};
            dueTold(x, latest);
            small(x, 1);
            x.squeeze();
            dueTold(x, latest);
            x.slice(40, 1);
            due("a FRAME that is well", x.hear(0), 2);
            dueTold(x, latest);
            put(x, 0, 0x80);
            due("a FRAME that is not", x.hear(0), 0);
            dueTold(x, latest);
        });
        edge("0 the FAULT (0: none), 1 its place,", x -> {
            type(x, 0x7a, 0x34);
            x.unfold();
            dueTold(x, 3, 1);
            type(x, 0x7a, 0x33, 59);
            x.unfold();
            dueTold(x, 0, 0);
        });
        edge("2 TF, 3 C, 4 SAC, SAM (4 SAC + SAM), 5 M, DAC, DAM (8 M + 4 DAC + DAM),", x -> {
            x.context(0, true, NET);
            int[][] all = {{0x63, 0x4b, 0, 0, 0, 0, 1}, {0x6b, 0xf7, 0, 0, 0, 0}, {0x73, 0x62, 0, 1, 2, 3, 4},
                {0x7b, 0xe6, 0, 1, 2, 3, 4}};
            int[][] due = {{0, 0, 4, 11}, {1, 1, 7, 7}, {2, 0, 6, 2}, {3, 1, 6, 6}};
            for (int k = 0; k < all.length; k++) {
                type(x, all[k]);
                behind(x, 59);
                due("unfold()", x.unfold(), 40);
                dueTold(x, 0, 0, due[k][0], due[k][1], due[k][2], due[k][3]);
            }
        });
        edge("6 P (-2: NH 0),", x -> {
            int[][] all = {{240, 1, 2, 3, 4}, {241, 1, 2, 3}, {242, 1, 2, 3}, {243, 1}};
            for (int p = 0; p < 4; p++) {
                type(x, 0x7e, 0x33);
                behind(x, all[p]);
                behind(x, 0, 0);
                due("unfold()", x.unfold(), 48);
                due("told(6)", x.told(6), p);
            }
            type(x, 0x7a, 0x33, 17);
            x.unfold();
            due("NH 0", x.told(6), -2);
        });
        edge("7 how many bytes the head took (all ahead of what is left).", x -> {
            type(x, 0x7a, 0x33, 59);
            x.unfold();
            due("none is left", x.told(7), 3);
            x.type(0, 8);
            x.unfold();
            due("8 are left", x.told(7), 3);
            type(x, 0x60, 0x80, 0, 0, 0, 0, 0, 59, 9);
            behind(x, new int[33]);
            x.unfold();
            due("the longest, of NH 0, and one is left", x.told(7), 41);
            type(x, 0x64, 0x80, 0, 0, 0, 0, 0, 9);
            behind(x, new int[32]);
            behind(x, 240, 1, 2, 3, 4, 5, 6, 7);
            x.unfold();
            due("the longest, and one is left", x.told(7), 47);
        });
    }

    private static void toldRefused() {
        edge("0 before one;", x -> {
            dueTold(x, 0, 0, 0, 0, 0, 0, 0, 0);
            put(x, 0, 0x7a, 0x33, 59);
            x.hear(0);
            small(x, 0);
            x.squeeze();
            dueTold(x, 0, 0, 0, 0, 0, 0, 0, 0);
        });
        edge("of 2 to 7 0, where it told a FAULT.", x -> {
            int[][] all = {{0x6a, 0xc3, 0, 0, 0}, {0x80}, {0x6a, 0xfc, 0}, {0x6a, 0xf3, 0}, {0x6a, 0xc3, 0, 32, 0, 0},
                {0x7e, 0xc3, 0, 0}};
            for (int k = 0; k < all.length; k++) {
                type(x, 0x76, 0xcb, 0, 0x41, 1, 243, 1, 2, 3);
                x.unfold();
                dueTold(x, 0, 0, 2, 1, 4, 11, 3, 9);
                type(x, all[k]);
                due("unfold()", x.unfold(), -11 - k);
                for (int what = 2; what < 8; what++) {
                    due("told(" + what + ") of FAULT " + (k + 1), x.told(what), 0);
                }
            }
            type(x, 0x72, 0xc3, 0, 0x41, 59);
            behind(x, new int[561]);
            x.unfold();
            dueTold(x, 7, 566, 0, 0, 0, 0, 0, 0);
        });
        edge("BAD.", x -> {
            type(x, 0x7a, 0x33, 59);
            x.unfold();
            for (int what : new int[] {-1, 8, LEAST, MOST}) {
                due("told(" + what + ")", x.told(what), -1);
            }
            due("told(7)", x.told(7), 3);
        });
    }

    // ---- 13

    private static void slice() {
        section("Promise 13");
        edge("THE TAPE, a PACKET, is CUT for a SIZE with a TAG (0 .. 65535) to FRAMES,", x -> {
            for (int tag : new int[] {0, 255, 256, 65535}) {
                small(x, 41);
                due("slice(40, " + tag + ")", x.slice(40, tag), 2);
                for (int k = 0; k < 2; k++) {
                    due("TAG, its upper byte", x.frame(k, 2), tag / 256);
                    due("TAG, its lower byte", x.frame(k, 3), tag % 256);
                }
                due("THE TAPE stays", x.cut(81), 0);
            }
            dueOut(x);
        });
        edge("in place of those that there are: how many.", x -> {
            small(x, 560);
            due("many", x.slice(40, 1), 18);
            small(x, 41);
            due("two", x.slice(40, 1), 2);
            due("frame(1, -1)", x.frame(1, -1), 14);
            due("frame(2, -1)", x.frame(2, -1), -1);
            due("count(3)", x.count(3), 2);
            small(x, 0);
            due("one", x.slice(40, 1), 1);
            dueFrame(x, 0, 0x7a, 0x33, 59);
            due("frame(1, -1)", x.frame(1, -1), -1);
        });
    }

    private static void sliceRefused() {
        edge("BAD;", x -> {
            small(x, 0);
            for (int size : new int[] {39, 121, 0, -40, LEAST, MOST}) {
                due("slice(" + size + ", 0)", x.slice(size, 0), -1);
            }
            for (int tag : new int[] {-1, 65536, LEAST, MOST}) {
                due("slice(40, " + tag + ")", x.slice(40, tag), -1);
            }
            due("no FRAMES came", x.count(3), 0);
            due("slice(40, 0)", x.slice(40, 0), 1);
            due("slice(120, 65535)", x.slice(120, 65535), 1);
        });
        edge("NOT as squeeze();", x -> {
            put(x, 0, 1, 2);
            x.cut(0);
            due("of none", x.slice(40, 0), -2);
            small(x, 0);
            x.cut(39);
            due("of 39", x.slice(40, 0), -2);
            small(x, 2);
            x.poke(0, 0x10);
            due("not 6", x.slice(40, 0), -2);
            x.poke(0, 0x10);
            x.poke(5, 1);
            due("n is one more", x.slice(40, 0), -2);
            small(x, 560);
            x.type(0, 1);
            x.poke(5, 1);
            due("n is 561", x.slice(120, 0), -2);
            dueFrame(x, 0, 1, 2);
            due("FRAMES stay", x.count(3), 1);
            x.cut(600);
            x.poke(5, 1);
            due("n is 560", x.slice(120, 0), 5);
        });
        // A FRAME behind FRAME 0 has 32 bytes at the least, so that 600 never make more than 19.
        edge("FULL: more than 40 (there are none then);", x -> {
            int most = 0;
            for (int size = 40; size <= 120; size++) {
                most = Math.max(most, framesOf(size, PLAIN, 64));
                most = Math.max(most, framesOf(size, NET, 64));
                most = Math.max(most, framesOf(size, NET, 9));
            }
            due("the most FRAMES", most, 19);
        });
        edge("ahead of that FRAME 0 cannot be, as its SIZE does not take what it has to (FRAMES stay).", x -> {
            put(x, 0, 1, 2);
            x.cut(0);
            x.head(4, 0, 8, 59, 64, NET, 1, NET, 2);
            behind(x, rising(8));
            due("a head of 36 bytes: 40 take it", x.slice(40, 0), 2);
            due("FRAME 0 has that alone", x.frame(0, -1), 40);
            put(x, 0, 1, 2);
            x.cut(0);
            x.head(4, 0, 8, 59, 9, NET, 1, NET, 2);
            behind(x, rising(8));
            due("a head of 37 bytes: 40 do not", x.slice(40, 0), -3);
            dueFrame(x, 0, 1, 2);
            due("FRAMES stay", x.count(3), 2);
            due("41 take it", x.slice(41, 0), 2);
        });
    }

    private static int framesOf(int size, long source, int hops) {
        Used y = new Used();
        y.head(4, 0, 560, 59, hops, source, 1, source, 2);
        behind(y, new int[560]);
        int frames = y.slice(size, 0);
        due("count(3)", y.count(3), Math.max(frames, 0));
        return frames;
    }

    // ---- 14 to 16

    private static void frame() {
        section("Promise 14");
        edge("Byte i of FRAME k;", x -> {
            put(x, 0, 7, 8);
            put(x, 1, 9);
            due("frame(0, 0)", x.frame(0, 0), 7);
            due("frame(0, 1)", x.frame(0, 1), 8);
            due("frame(1, 0)", x.frame(1, 0), 9);
        });
        edge("i = -1: how many.", x -> {
            put(x, 0, 7, 8);
            put(x, 1, rising(120));
            due("frame(0, -1)", x.frame(0, -1), 2);
            due("frame(1, -1)", x.frame(1, -1), 120);
            due("frame(1, 119)", x.frame(1, 119), 120);
        });
        edge("BAD.", x -> {
            due("frame(0, -1) of none", x.frame(0, -1), -1);
            put(x, 0, 7, 8);
            put(x, 1, 9);
            for (int k : new int[] {-1, 2, 39, 40, LEAST, MOST}) {
                due("frame(" + k + ", -1) of 2", x.frame(k, -1), -1);
                due("frame(" + k + ", 0) of 2", x.frame(k, 0), -1);
            }
            for (int i : new int[] {-2, 2, 120, LEAST, MOST}) {
                due("frame(0, " + i + ") of 2 bytes", x.frame(0, i), -1);
            }
            due("frame(1, 1) of 1 byte", x.frame(1, 1), -1);
        });
    }

    private static void spoil() {
        section("Promise 15");
        edge("Byte i of FRAME k becomes another one, as by poke().", x -> {
            put(x, 0, 0x0f, 0xf0);
            put(x, 1, 0x0f);
            due("mask 0", x.spoil(0, 0, 0), 0x0f);
            due("mask 255", x.spoil(0, 0, 255), 0xf0);
            due("mask 256", x.spoil(0, 1, 256), 0xf0);
            due("mask -1", x.spoil(1, 0, -1), 0xf0);
            due("the least mask", x.spoil(1, 0, LEAST), 0xf0);
            dueFrame(x, 0, 0xf0, 0xf0);
            dueFrame(x, 1, 0xf0);
            dueTape(x, 0x0f);
        });
        edge("BAD.", x -> {
            due("spoil(0, 0, 1) of none", x.spoil(0, 0, 1), -1);
            put(x, 0, 7, 8);
            put(x, 1, 9);
            for (int k : new int[] {-1, 2, 39, 40, LEAST, MOST}) {
                due("spoil(" + k + ", 0, 1) of 2", x.spoil(k, 0, 1), -1);
            }
            for (int i : new int[] {-1, 2, 119, 120, LEAST, MOST}) {
                due("spoil(0, " + i + ", 1) of 2 bytes", x.spoil(0, i, 1), -1);
            }
            due("spoil(1, 1, 1) of 1 byte", x.spoil(1, 1, 1), -1);
            dueFrame(x, 0, 7, 8);
            dueFrame(x, 1, 9);
        });
    }

    private static void put() {
        section("Promise 16");
        edge("THE TAPE (1 .. 120 bytes; it stays) comes as FRAME k,", x -> {
            type(x, 5);
            due("1 byte", x.put(0), 1);
            dueFrame(x, 0, 5);
            dueTape(x, 5);
            type(x, rising(120));
            due("120 bytes", x.put(0), 1);
            due("frame(0, -1)", x.frame(0, -1), 120);
            due("frame(0, 119)", x.frame(0, 119), 120);
            due("THE TAPE stays", x.cut(120), 0);
            x.poke(0, 255);
            due("FRAME 0 is its own", x.frame(0, 0), 1);
            type(x, 6);
            due("1 byte in place of 120", x.put(0), 1);
            dueFrame(x, 0, 6);
        });
        edge("the next one or one that there is:", x -> {
            x.type(1, 1);
            due("put(1) of none", x.put(1), -1);
            due("put(0), the next one", x.put(0), 1);
            due("put(2) of 1", x.put(2), -1);
            due("put(1), the next one", x.put(1), 2);
            type(x, 2);
            due("put(0), there is one", x.put(0), 2);
            dueFrame(x, 0, 2);
            dueFrame(x, 1, 1);
        });
        edge("how many FRAMES there are.", x -> {
            x.type(1, 1);
            for (int k = 0; k < 40; k++) {
                due("put(" + k + ")", x.put(k), k + 1);
            }
            due("put(0)", x.put(0), 40);
            due("put(39)", x.put(39), 40);
            due("count(3)", x.count(3), 40);
        });
    }

    private static void putRefused() {
        edge("BAD;", x -> {
            x.type(1, 1);
            for (int k : new int[] {-1, 1, 39, 40, 41, LEAST, MOST}) {
                due("put(" + k + ") of none", x.put(k), -1);
            }
            due("no FRAMES came", x.count(3), 0);
            for (int k = 0; k < 39; k++) {
                x.put(k);
            }
            due("put(40) of 39", x.put(40), -1);
        });
        edge("NOT: THE TAPE is empty or longer;", x -> {
            due("empty", x.put(0), -2);
            fill(x, 121);
            due("121 bytes", x.put(0), -2);
            fill(x, 640);
            due("640 bytes", x.put(0), -2);
            due("no FRAMES came", x.count(3), 0);
            x.cut(120);
            due("120 bytes", x.put(0), 1);
            x.cut(0);
            due("empty, in place of one", x.put(0), -2);
            due("that stays", x.frame(0, -1), 120);
        });
        edge("FULL: k is 40.", x -> {
            x.type(1, 1);
            for (int k = 0; k < 40; k++) {
                x.put(k);
            }
            due("put(40)", x.put(40), -3);
            due("put(41)", x.put(41), -1);
            due("count(3)", x.count(3), 40);
            due("frame(40, -1)", x.frame(40, -1), -1);
        });
    }

    // ---- 17

    private static void hear() {
        section("Promise 17");
        edge("FRAME k is HEARD: 2 a PACKET is WHOLE,", x -> {
            put(x, 0, 0x7a, 0x33, 59);
            due("a SQUEEZED one", x.hear(0), 2);
            putPart(x, 1, 48, 0, 0, 40, 1);
            putPart(x, 2, 48, 0, 5, 8, 2);
            due("a part", x.hear(1), 1);
            due("the part that lacked", x.hear(2), 2);
            putPart(x, 0, 40, 0, 0, 40, 3);
            due("a part that is all", x.hear(0), 2);
            due("FRAMES stay", x.count(3), 3);
        });
        edge("1 a part is kept,", x -> {
            putPart(x, 0, 48, 0, 0, 8, 1);
            due("the first one", x.hear(0), 1);
            putPart(x, 0, 48, 0, 2, 8, 1);
            due("one more", x.hear(0), 1);
            putPart(x, 0, 48, 0, 0, 16, 1);
            due("one that meets others", x.hear(0), 1);
            dueOut(x);
        });
        edge("0 it is dropped.", x -> {
            putPart(x, 0, 48, 0, 0, 8, 1);
            x.hear(0);
            due("the same once more", x.hear(0), 0);
            put(x, 0, 0x80, 1);
            due("none of these", x.hear(0), 0);
            put(x, 0, 0x7a, 0x34);
            due("a FAULT", x.hear(0), 0);
            dueCounts(x, 1, 1, 8, 1, 0, 3);
        });
        edge("BAD.", x -> {
            for (int k : new int[] {-1, 0, 1, LEAST, MOST}) {
                due("hear(" + k + ") of none", x.hear(k), -1);
            }
            put(x, 0, 0x7a, 0x33, 59);
            put(x, 1, 0x7a, 0x33, 59);
            for (int k : new int[] {-1, 2, 39, 40, LEAST, MOST}) {
                due("hear(" + k + ") of 2", x.hear(k), -1);
            }
            dueCounts(x, 0, 0, 0, 2, 0, 0);
            due("hear(1) of 2", x.hear(1), 2);
            small(x, 0);
            x.slice(40, 0);
            due("hear(1) of 1", x.hear(1), -1);
        });
    }

    // ---- 18, 19

    private static void pass() {
        section("Promise 18");
        edge("The clock goes on by n (0 .. 1000): the clock.", x -> {
            due("pass(0)", x.pass(0), 0);
            due("pass(1)", x.pass(1), 1);
            due("pass(1000)", x.pass(1000), 1001);
            due("pass(0)", x.pass(0), 1001);
            for (int i = 2; i < 500; i++) {
                x.pass(1000);
            }
            due("pass(999)", x.pass(999), 500000);
        });
        edge("BAD.", x -> {
            x.pass(3);
            for (int n : new int[] {-1, 1001, LEAST, MOST}) {
                due("pass(" + n + ")", x.pass(n), -1);
            }
            due("the clock", x.count(8), 3);
        });
    }

    private static void count() {
        section("Promise 19");
        edge("How many: 0 HEAPS,", x -> {
            for (int tag = 0; tag < 5; tag++) {
                due("count(0)", x.count(0), Math.min(tag, 3));
                hearPart(x, 48, tag, 0, 8, 1);
            }
            hearPart(x, 48, 2, 1, 40, 1);
            due("one less", x.count(0), 2);
        });
        edge("1 parts in all of them,", x -> {
            due("of none", x.count(1), 0);
            hearPart(x, 48, 1, 0, 8, 1);
            hearPart(x, 48, 1, 2, 16, 1);
            hearPart(x, 48, 2, 0, 40, 1);
            due("of two HEAPS", x.count(1), 3);
            hearPart(x, 48, 1, 2, 8, 1);
            due("parts that met went", x.count(1), 2);
            hearPart(x, 48, 2, 5, 8, 1);
            due("those of what is WHOLE went", x.count(1), 1);
        });
        edge("2 bytes in these,", x -> {
            due("of none", x.count(2), 0);
            hearPart(x, 43, 1, 5, 3, 1);
            hearPart(x, 43, 1, 2, 16, 1);
            hearPart(x, 48, 2, 0, 40, 1);
            due("of two HEAPS", x.count(2), 59);
            hearPart(x, 43, 1, 2, 8, 1);
            due("parts that met went", x.count(2), 48);
            hearPart(x, 48, 2, 5, 8, 1);
            due("those of what is WHOLE went", x.count(2), 8);
        });
        edge("3 FRAMES,", x -> {
            due("of none", x.count(3), 0);
            put(x, 0, 1);
            put(x, 1, 1);
            due("two", x.count(3), 2);
            small(x, 0);
            x.slice(40, 0);
            due("one in their place", x.count(3), 1);
        });
        edge("4 PACKETS that were WHOLE,", x -> {
            put(x, 0, 0x7a, 0x33, 59);
            x.hear(0);
            due("one of a SQUEEZED one", x.count(4), 1);
            hearPart(x, 48, 1, 0, 40, 1);
            due("a part is none", x.count(4), 1);
            hearPart(x, 48, 1, 5, 8, 1);
            due("one of parts", x.count(4), 2);
            type(x, 0x7a, 0x33, 59);
            x.unfold();
            due("unfold() is none", x.count(4), 2);
        });
    }

    private static void countAll() {
        edge("5 FRAMES dropped,", x -> {
            x.hear(0);
            due("BAD is none", x.count(5), 0);
            put(x, 0, 1);
            x.hear(0);
            due("none of those told", x.count(5), 1);
            hearPart(x, 48, 1, 0, 8, 1);
            due("a part that is kept", x.count(5), 1);
            hearPart(x, 48, 1, 0, 8, 1);
            due("the same part", x.count(5), 2);
            hearPart(x, 48, 1, 0, 16, 1);
            due("parts that met are no FRAMES dropped", x.count(5), 2);
        });
        edge("6 HEAPS that went by time,", x -> {
            hearPart(x, 48, 1, 0, 8, 1);
            hearPart(x, 48, 2, 0, 8, 1);
            x.pass(59);
            hearPart(x, 48, 3, 0, 40, 1);
            due("59", x.count(6), 0);
            x.pass(1);
            hearPart(x, 48, 3, 5, 8, 1);
            due("60, and one that is WHOLE is none of them", x.count(6), 2);
            due("count(0)", x.count(0), 0);
        });
        edge("7 that began anew as parts met,", x -> {
            hearPart(x, 48, 1, 0, 8, 1);
            hearPart(x, 48, 1, 0, 8, 1);
            hearPart(x, 48, 1, 1, 8, 1);
            due("no part met another one", x.count(7), 0);
            hearPart(x, 48, 1, 0, 16, 1);
            due("one part met two", x.count(7), 1);
            hearPart(x, 48, 1, 0, 48, 1);
            due("one met, and is WHOLE", x.count(7), 2);
        });
        edge("8 the clock.", x -> {
            due("0 at first", x.count(8), 0);
            x.pass(7);
            x.pass(1000);
            due("count(8)", x.count(8), 1007);
        });
        edge("BAD.", x -> {
            for (int what : new int[] {-1, 9, 10, LEAST, MOST}) {
                due("count(" + what + ")", x.count(what), -1);
            }
        });
    }
}
