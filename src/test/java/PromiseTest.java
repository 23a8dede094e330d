/** For each promise of the document: ordinary inputs, its edges and wrong inputs, worked out by hand. */
final class PromiseTest extends Hand {
    private PromiseTest() {
    }

    public static void main(String[] args) {
        newObject();
        context();
        link();
        type();
        head();
        cut();
        poke();
        take();
        out();
        squeezeNot();
        squeezeTraffic();
        squeezeHops();
        squeezeSource();
        squeezeGoal();
        squeezeContexts();
        squeezePorts();
        unfoldEnds();
        unfoldFaults();
        unfoldForms();
        unfoldPorts();
        unfoldTooLong();
        told();
        sliceWrong();
        sliceOne();
        sliceMany();
        frame();
        spoil();
        put();
        hearWhole();
        hearParts();
        hearDropped();
        hearMeeting();
        hearHeaps();
        hearByTime();
        pass();
        count();
        Check.end("PromiseTest");
    }

    // ---- 1

    private static void newObject() {
        about = "promise 1";
        Used x = new Used();
        due("cut(1)", x.cut(1), -1);
        due("poke(0, 0)", x.poke(0, 0), -1);
        dueOut(x);
        due("frame(0, -1)", x.frame(0, -1), -1);
        dueCounts(x, 0, 0, 0, 0, 0, 0, 0, 0, 0);
        dueTold(x, 0, 0, 0, 0, 0, 0, 0, 0);
        for (int i = 0; i < 16; i++) {
            due("no CONTEXT " + i, x.context(i, false, 0), 0);
        }
        packet(x, 0, PLAIN, OWN_OF_SHORT_0, PLAIN, OWN_OF_SHORT_0);
        dueSqueezed(x, 0x7a, 0x33, 59);
    }

    // ---- 2, 3

    private static void context() {
        about = "promise 2";
        Used x = new Used();
        due("context(-1, ..)", x.context(-1, true, 1), -1);
        due("context(16, ..)", x.context(16, true, 1), -1);
        due("context(0, true, ..)", x.context(0, true, NET), 0);
        due("context(15, true, ..)", x.context(15, true, NET + 1), 0);
        due("again", x.context(15, true, NET + 2), 1);
        packet(x, 0, NET + 2, 1, NET + 1, 1);
        dueSqueezed(x, 0x7a, 0xd0, 0xf0, 59, 0, 0, 0, 0, 0, 0, 0, 1,
                0x20, 1, 0x0d, 0xb8, 0, 0, 0, 1, 0, 0, 0, 0, 0, 0, 0, 1);
        due("none again", x.context(15, false, NET + 2), 1);
        due("none still", x.context(15, false, NET + 2), 0);
        due("unfold() by what both ends know now", x.unfold(), -14);
        due("CONTEXT 0 is another one", x.context(0, false, 0), 1);
    }

    private static void link() {
        about = "promise 3";
        Used x = new Used();
        due("link(-1, ..)", x.link(-1, false, 5), -1);
        due("link(2, ..)", x.link(2, false, 5), -1);
        due("link(0, false, ..)", x.link(0, false, 0x7fff_ffff_1234L), 1);
        due("link(1, true, ..)", x.link(1, true, 0x0102030405060708L), 1);
        packet(x, 0, PLAIN, 0x000000fffe001234L, PLAIN, 0x0102030405060708L);
        dueSqueezed(x, 0x7a, 0x31, 59, 1, 2, 3, 4, 5, 6, 7, 8);
        packet(x, 0, PLAIN, 0x000000fffe001234L, PLAIN, 0x0302030405060708L);
        dueSqueezed(x, 0x7a, 0x33, 59);
        due("link(1, true, ..): the bit 2 is taken away", x.link(1, true, 0x0302030405060708L), 1);
        packet(x, 0, PLAIN, 0x000000fffe001234L, PLAIN, 0x0102030405060708L);
        dueSqueezed(x, 0x7a, 0x33, 59);
        due("link(0, false, ..)", x.link(0, false, -1), 1);
        packet(x, 0, PLAIN, 0x000000fffe00ffffL, PLAIN, 0x0102030405060708L);
        dueSqueezed(x, 0x7a, 0x33, 59);
    }

    // ---- 4 to 9

    private static void type() {
        about = "promise 4";
        Used x = new Used();
        due("type(.., 0)", x.type(1, 0), -1);
        due("type(.., 9)", x.type(1, 9), -1);
        due("type(.., -1)", x.type(1, -1), -1);
        due("type(.., 3)", x.type(0x11223344556677f8L, 3), 3);
        due("type(.., 8)", x.type(0x81828384858687f8L, 8), 11);
        due("type(.., 1)", x.type(-1, 1), 12);
        int[] had = {0x66, 0x77, 0xf8, 0x81, 0x82, 0x83, 0x84, 0x85, 0x86, 0x87, 0xf8, 255};
        for (int i = 0; i < had.length; i++) {
            due("byte " + i, x.poke(i, 0), had[i]);
        }
        for (int i = 12; i + 8 <= 636; i += 8) {
            x.type(0, 8);
        }
        due("type(.., 5) of 636", x.type(0, 5), -3);
        due("BAD ahead of FULL", x.type(0, 9), -1);
        due("type(.., 4) of 636", x.type(0x01020304, 4), 640);
        due("type(.., 1) of 640", x.type(0, 1), -3);
        due("the last byte", x.poke(639, 0), 4);
        due("none behind", x.poke(640, 0), -1);
    }

    private static void head() {
        about = "promise 5";
        Used x = new Used();
        int[][] wrong = {{-1, 0, 0, 0, 0}, {256, 0, 0, 0, 0}, {0, -1, 0, 0, 0}, {0, 1048576, 0, 0, 0},
            {0, 0, -1, 0, 0}, {0, 0, 561, 0, 0}, {0, 0, 0, -1, 0}, {0, 0, 0, 256, 0}, {0, 0, 0, 0, -1}, {0, 0, 0, 0, 256}};
        for (int[] w : wrong) {
            due("head of a wrong number", x.head(w[0], w[1], w[2], w[3], w[4], 0, 0, 0, 0), -1);
        }
        due("head(..)", x.head(0xab, 0xcdef1, 0x0123, 0xfe, 0xdc, 0x1112131415161718L, 0x8182838485868788L,
                0x2122232425262728L, 0x9192939495969798L), 40);
        int[] had = {0x6a, 0xbc, 0xde, 0xf1, 1, 0x23, 0xfe, 0xdc, 0x11, 0x12, 0x13, 0x14, 0x15, 0x16, 0x17, 0x18,
            0x81, 0x82, 0x83, 0x84, 0x85, 0x86, 0x87, 0x88, 0x21, 0x22, 0x23, 0x24, 0x25, 0x26, 0x27, 0x28,
            0x91, 0x92, 0x93, 0x94, 0x95, 0x96, 0x97, 0x98};
        for (int i = 0; i < 40; i++) {
            due("byte " + i, x.poke(i, 0), had[i]);
        }
        due("the largest numbers", x.head(255, 1048575, 560, 255, 255, -1, -1, -1, -1), 80);
        due("byte 40", x.poke(40, 0), 0x6f);
        due("byte 44", x.poke(44, 0), 2);
        due("byte 45", x.poke(45, 0), 0x30);
        for (int i = 80; i < 600; i += 40) {
            x.head(0, 0, 0, 0, 0, 0, 0, 0, 0);
        }
        due("up to 640", x.head(0, 0, 0, 0, 0, 0, 0, 0, 0), 640);
        due("FULL", x.head(0, 0, 0, 0, 0, 0, 0, 0, 0), -3);
        due("BAD ahead of FULL", x.head(256, 0, 0, 0, 0, 0, 0, 0, 0), -1);
        x.cut(601);
        due("FULL at 601", x.head(0, 0, 0, 0, 0, 0, 0, 0, 0), -3);
        due("nothing came", x.cut(601), 0);
    }

    private static void cut() {
        about = "promise 6";
        Used x = new Used();
        due("cut(0) of none", x.cut(0), 0);
        due("cut(1) of none", x.cut(1), -1);
        x.type(0x0102030405L, 5);
        due("cut(6)", x.cut(6), -1);
        due("cut(-1)", x.cut(-1), -1);
        due("cut(5)", x.cut(5), 0);
        due("cut(2)", x.cut(2), 3);
        due("the second stays", x.poke(1, 0), 2);
        due("the third went", x.poke(2, 0), -1);
        due("type", x.type(9, 1), 3);
        due("the new third", x.poke(2, 0), 9);
        due("cut(0)", x.cut(0), 3);
    }

    private static void poke() {
        about = "promise 7";
        Used x = new Used();
        x.type(0xf0, 1);
        x.type(0x0f, 1);
        due("poke(-1, ..)", x.poke(-1, 1), -1);
        due("poke(2, ..)", x.poke(2, 1), -1);
        due("poke(0, 0x1ff)", x.poke(0, 0x1ff), 0x0f);
        due("poke(0, 0)", x.poke(0, 0), 0x0f);
        due("poke(1, -1)", x.poke(1, -1), 0xf0);
        due("poke(1, 256)", x.poke(1, 256), 0xf0);
    }

    private static void take() {
        about = "promise 8";
        Used x = new Used();
        x.type(1, 8);
        due("take() of none", x.take(), 0);
        due("THE TAPE is empty", x.cut(0), 0);
        packet(x, 2, PLAIN, OWN_OF_SHORT_0, PLAIN, OWN_OF_SHORT_0);
        x.squeeze();
        due("take()", x.take(), 5);
        dueOut(x, 0x7a, 0x33, 59, 1, 2);
        due("poke is of THE TAPE alone", x.poke(0, 1), 0x7b);
        dueOut(x, 0x7a, 0x33, 59, 1, 2);
        due("take() once more", x.take(), 5);
        due("the byte is as it was", x.poke(0, 0), 0x7a);
    }

    private static void out() {
        about = "promise 9";
        Used x = new Used();
        due("out(0)", x.out(0), -1);
        due("out(-1)", x.out(-1), 0);
        due("out(-2)", x.out(-2), -1);
        packet(x, 1, PLAIN, OWN_OF_SHORT_0, PLAIN, OWN_OF_SHORT_0);
        x.squeeze();
        dueOut(x, 0x7a, 0x33, 59, 1);
        due("out(-2)", x.out(-2), -1);
        due("out(640)", x.out(640), -1);
        due("out of the greatest", x.out(Integer.MAX_VALUE), -1);
        due("out of the least", x.out(Integer.MIN_VALUE), -1);
    }

    // ---- 10

    private static void squeezeNot() {
        about = "promise 10, NOT";
        Used x = new Used();
        due("of nothing", x.squeeze(), -2);
        packet(x, 0, 0, 0, 0, 0);
        due("a PACKET", x.squeeze(), 19);
        x.poke(0, 0x10);
        due("7, not 6", x.squeeze(), -2);
        due("THE OUT stays", x.out(-1), 19);
        x.poke(0, 0x10);
        x.type(0, 1);
        due("a byte more than n", x.squeeze(), -2);
        x.poke(5, 1);
        due("n is 1", x.squeeze(), 20);
        x.poke(4, 1);
        due("n is 257", x.squeeze(), -2);
        x.cut(39);
        due("39 bytes", x.squeeze(), -2);
        x.cut(0);
        x.head(0, 0, 560, 1, 1, 0, 0, 0, 0);
        for (int i = 0; i < 70; i++) {
            x.type(0, 8);
        }
        due("n is 560", x.squeeze(), 579);
        x.type(0, 1);
        x.poke(5, 1);
        due("n is 561", x.squeeze(), -2);
    }

    private static void squeezeTraffic() {
        about = "promise 10, TF";
        int[][] all = {{0, 0, 0x1a}, {5, 0, 0x12, 0x41}, {252, 0, 0x12, 0x3f}, {3, 0, 0x12, 0xc0},
            {0, 1, 0x0a, 0, 0, 1}, {3, 0xfedcb, 0x0a, 0xcf, 0xed, 0xcb}, {4, 0xfedcb, 2, 1, 0x0f, 0xed, 0xcb},
            {255, 1, 2, 0xff, 0, 0, 1}};
        for (int[] a : all) {
            Used x = new Used();
            x.head(a[0], a[1], 0, 59, 64, PLAIN, OWN_OF_SHORT_0, PLAIN, OWN_OF_SHORT_0);
            int[] bytes = new int[a.length];
            bytes[0] = 0x60 | a[2];
            bytes[1] = 0x33;
            System.arraycopy(a, 3, bytes, 2, a.length - 3);
            bytes[a.length - 1] = 59;
            dueSqueezed(x, bytes);
        }
    }

    private static void squeezeHops() {
        about = "promise 10, HL and KIND";
        int[][] all = {{1, 1}, {64, 2}, {255, 3}, {0, 0}, {2, 0}, {63, 0}, {65, 0}, {254, 0}};
        for (int[] a : all) {
            Used x = new Used();
            x.head(0, 0, 0, 17, a[0], PLAIN, OWN_OF_SHORT_0, PLAIN, OWN_OF_SHORT_0);
            dueSqueezed(x, a[1] != 0 ? bytes(0x78 | a[1], 0x33, 17) : bytes(0x78, 0x33, 17, a[0]));
        }
    }

    private static void squeezeSource() {
        about = "promise 10, SOURCE";
        Used x = new Used();
        packet(x, 0, PLAIN, OWN_OF_SHORT_0 + 0xabcd, PLAIN, OWN_OF_SHORT_0);
        dueSqueezed(x, 0x7a, 0x23, 59, 0xab, 0xcd);
        packet(x, 0, PLAIN, OWN_OF_SHORT_0 + 0x10000, PLAIN, OWN_OF_SHORT_0);
        dueSqueezed(x, 0x7a, 0x13, 59, 0, 0, 0, 255, 254, 1, 0, 0);
        packet(x, 0, 0, 0, PLAIN, OWN_OF_SHORT_0);
        dueSqueezed(x, 0x7a, 0x43, 59);
        x = new Used();
        packet(x, 0, 0, 1, PLAIN, OWN_OF_SHORT_0);
        dueSqueezed(x, 0x7a, 3, 59, 0, 0, 0, 0, 0, 0, 0, 0, 0, 0, 0, 0, 0, 0, 0, 1);
        packet(x, 0, PLAIN + 1, 0, PLAIN, OWN_OF_SHORT_0);
        dueSqueezed(x, 0x7a, 3, 59, 0xfe, 0x80, 0, 0, 0, 0, 0, 1, 0, 0, 0, 0, 0, 0, 0, 0);
        packet(x, 0, 0xff02L << 48, 1, PLAIN, OWN_OF_SHORT_0);
        dueSqueezed(x, 0x7a, 3, 59, 0xff, 2, 0, 0, 0, 0, 0, 0, 0, 0, 0, 0, 0, 0, 0, 1);
        x = new Used();
        x.link(1, true, 0x0200000000000000L);
        x.context(0, true, 0);
        packet(x, 0, 0, 0, PLAIN, 0);
        dueSqueezed(x, 0x7a, 0x43, 59);
        packet(x, 0, 0, OWN_OF_SHORT_0, PLAIN, 0);
        dueSqueezed(x, 0x7a, 0x73, 59);
    }

    private static void squeezeGoal() {
        about = "promise 10, GOAL";
        Used x = new Used();
        long many = 0xff02L << 48;
        long other = 0xff05L << 48;
        packet(x, 0, 0, 0, many, 0xff);
        dueSqueezed(x, 0x7a, 0x4b, 59, 0xff);
        packet(x, 0, 0, 0, many, 0x100);
        dueSqueezed(x, 0x7a, 0x4a, 59, 2, 0, 1, 0);
        packet(x, 0, 0, 0, other, 0xff);
        dueSqueezed(x, 0x7a, 0x4a, 59, 5, 0, 0, 0xff);
        x = new Used();
        packet(x, 0, 0, 0, 0xff03L << 48, 9);
        dueSqueezed(x, 0x7a, 0x4a, 59, 3, 0, 0, 9);
        x = new Used();
        packet(x, 0, 0, 0, other, 0xffffff);
        dueSqueezed(x, 0x7a, 0x4a, 59, 5, 0xff, 0xff, 0xff);
        packet(x, 0, 0, 0, many, 0x1000000);
        dueSqueezed(x, 0x7a, 0x49, 59, 2, 0, 1, 0, 0, 0);
        packet(x, 0, 0, 0, many, 0xffffffffffL);
        dueSqueezed(x, 0x7a, 0x49, 59, 2, 255, 255, 255, 255, 255);
        x = new Used();
        packet(x, 0, 0, 0, many, 0x10000000000L);
        dueSqueezed(x, 0x7a, 0x48, 59, 0xff, 2, 0, 0, 0, 0, 0, 0, 0, 0, 1, 0, 0, 0, 0, 0);
        packet(x, 0, 0, 0, many + 1, 1);
        dueSqueezed(x, 0x7a, 0x48, 59, 0xff, 2, 0, 0, 0, 0, 0, 1, 0, 0, 0, 0, 0, 0, 0, 1);
        packet(x, 0, 0, 0, 0, 0);
        dueSqueezed(x, 0x7a, 0x40, 59, 0, 0, 0, 0, 0, 0, 0, 0, 0, 0, 0, 0, 0, 0, 0, 0);
        x = new Used();
        x.context(0, true, many);
        packet(x, 0, 0, 0, many, 1);
        dueSqueezed(x, 0x7a, 0x4b, 59, 1);
        packet(x, 0, 0, 0, PLAIN, 0x000000fffe000102L);
        dueSqueezed(x, 0x7a, 0x42, 59, 1, 2);
        packet(x, 0, 0, 0, PLAIN, 0x010000fffe000102L);
        dueSqueezed(x, 0x7a, 0x41, 59, 1, 0, 0, 255, 254, 0, 1, 2);
    }

    private static void squeezeContexts() {
        about = "promise 10, CONTEXTS";
        Used x = new Used();
        x.context(3, true, NET);
        x.context(9, true, NET);
        x.context(0, true, NET + 1);
        x.context(1, true, PLAIN);
        packet(x, 0, NET, OWN_OF_SHORT_0, PLAIN, OWN_OF_SHORT_0);
        dueSqueezed(x, 0x7a, 0xf3, 0x30, 59);
        packet(x, 0, PLAIN, OWN_OF_SHORT_0, NET, 7);
        dueSqueezed(x, 0x7a, 0xb5, 0x03, 59, 0, 0, 0, 0, 0, 0, 0, 7);
        packet(x, 0, NET + 1, OWN_OF_SHORT_0 + 5, NET + 1, OWN_OF_SHORT_0);
        dueSqueezed(x, 0x7a, 0x67, 59, 0, 5);
        packet(x, 0, NET + 1, OWN_OF_SHORT_0 + 5, NET, OWN_OF_SHORT_0 + 6);
        dueSqueezed(x, 0x7a, 0xe6, 0x03, 59, 0, 5, 0, 6);
        x.context(3, false, 0);
        packet(x, 0, NET, OWN_OF_SHORT_0, NET, OWN_OF_SHORT_0);
        dueSqueezed(x, 0x7a, 0xf7, 0x99, 59);
    }

    private static void squeezePorts() {
        about = "promise 10, PORTS";
        Used x = new Used();
        ports(x, 0xf0b3, 0xf0bc, 0);
        dueSqueezed(x, 0x7e, 0x33, 243, 0x3c, 10, 11);
        ports(x, 0xf0b3, 0xf0c0, 1);
        dueSqueezed(x, 0x7e, 0x33, 241, 0xf0, 0xb3, 0xc0, 10, 11, 1);
        ports(x, 0xf0b3, 0xf1c0, 1);
        dueSqueezed(x, 0x7e, 0x33, 242, 0xb3, 0xf1, 0xc0, 10, 11, 1);
        x = new Used();
        ports(x, 0x1234, 0xf0bc, 0);
        dueSqueezed(x, 0x7e, 0x33, 241, 0x12, 0x34, 0xbc, 10, 11);
        ports(x, 0x1234, 0xefbc, 2);
        dueSqueezed(x, 0x7e, 0x33, 240, 0x12, 0x34, 0xef, 0xbc, 10, 11, 1, 2);
        ports(x, 0xf0b3, 0xf0bc, 0);
        x.poke(45, 1);
        dueSqueezed(x, 0x7a, 0x33, 17, 0xf0, 0xb3, 0xf0, 0xbc, 0, 9, 10, 11);
        x = new Used();
        ports(x, 0xf0b3, 0xf0bc, 0);
        x.poke(44, 1);
        dueSqueezed(x, 0x7a, 0x33, 17, 0xf0, 0xb3, 0xf0, 0xbc, 1, 8, 10, 11);
        ports(x, 0xf0b3, 0xf0bc, 0);
        x.poke(6, 1);
        dueSqueezed(x, 0x7a, 0x33, 16, 0xf0, 0xb3, 0xf0, 0xbc, 0, 8, 10, 11);
        x.cut(0);
        x.head(0, 0, 7, 17, 64, PLAIN, OWN_OF_SHORT_0, PLAIN, OWN_OF_SHORT_0);
        x.type(0x01020304000706L, 7);
        dueSqueezed(x, 0x7a, 0x33, 17, 1, 2, 3, 4, 0, 7, 6);
    }

    // ---- 11

    private static void unfoldEnds() {
        about = "promise 11, FAULT 1";
        Used x = new Used();
        x.context(3, true, NET);
        dueFault(x, 1, 0);
        int[] longest = {0x64, 0xd5, 0x33, 1, 0, 0, 1, 9, 0, 0, 0, 0, 0, 0, 0, 1, 0, 0, 0, 0, 0, 0, 0, 2,
            240, 1, 2, 3, 4, 5, 6};
        for (int n = 1; n < longest.length; n++) {
            dueFault(x, 1, n, java.util.Arrays.copyOf(longest, n));
        }
        type(x, longest);
        due("unfold() of all", x.unfold(), 48);
        x = new Used();
        int[] many = {0x7a, 0x49, 59, 5, 1, 2, 3, 4, 5};
        for (int n = 1; n < many.length; n++) {
            dueFault(x, 1, n, java.util.Arrays.copyOf(many, n));
        }
        type(x, many);
        due("unfold() of all", x.unfold(), 40);
    }

    private static void unfoldFaults() {
        about = "promise 11, FAULTS 2 to 6";
        Used x = new Used();
        dueFault(x, 2, 0, 0x5f);
        dueFault(x, 2, 0, 0x80, 0x04);
        dueFault(x, 2, 0, 0);
        dueFault(x, 3, 1, 0x7a, 0x34, 59);
        dueFault(x, 3, 1, 0x7a, 0x3c, 59);
        dueFault(x, 3, 1, 0x7a, 0x3f);
        dueFault(x, 3, 1, 0x7a, 0xd4);
        dueFault(x, 4, 1, 0x7a, 0x53, 59);
        dueFault(x, 4, 1, 0x7a, 0x37, 59);
        dueFault(x, 4, 2, 0x7a, 0xf3, 0x30, 59);
        dueFault(x, 4, 2, 0x7a, 0xb7, 0x03);
        x.context(3, true, NET);
        dueFault(x, 4, 2, 0x7a, 0xf7, 0x30);
        dueFault(x, 4, 2, 0x7a, 0xf7, 0x03);
        dueFault(x, 4, 2, 0x7a, 0xf7, 0x03, 0x59);
        type(x, 0x7a, 0xc3, 0x77, 59);
        due("a CONTEXT that is none, but not used", x.unfold(), 40);
        dueFault(x, 5, 2, 0x62, 0x33, 0, 0x10, 0, 0);
        dueFault(x, 5, 2, 0x62, 0x33, 0, 0x80, 0, 0, 59);
        dueFault(x, 5, 3, 0x62, 0xb3, 0x33, 0, 0xf0, 0, 0, 59);
        dueFault(x, 1, 5, 0x62, 0x33, 0, 0x10, 0);
        dueFault(x, 5, 2, 0x6a, 0x33, 0x20, 0, 0, 59);
        dueFault(x, 5, 2, 0x6a, 0x33, 0x10, 0, 0);
        dueFault(x, 1, 4, 0x6a, 0x33, 0x30, 0);
        dueFault(x, 6, 2, 0x7e, 0x33, 239);
        dueFault(x, 6, 2, 0x7e, 0x33, 244, 1, 2, 3, 4, 5, 6);
        dueFault(x, 6, 3, 0x7c, 0x33, 9, 0);
    }

    private static void unfoldForms() {
        about = "promise 11, forms that are not WRITTEN";
        Used x = new Used();
        x.context(0, true, NET);
        x.link(0, true, 0x0102030405060708L);
        type(x, 0x60, 0x6a, 0, 0, 0, 0, 17, 64, 0x12, 0x34, 0, 0, 0, 9, 77);
        due("unfold()", x.unfold(), 41);
        dueOut(x, 0x60, 0, 0, 0, 0, 1, 17, 64, 0x20, 1, 0x0d, 0xb8, 0, 0, 0, 0, 0, 0, 0, 255, 254, 0, 0x12, 0x34,
                255, 0, 0, 0, 0, 0, 0, 0, 0, 0, 0, 0, 0, 0, 0, 9, 77);
        dueTold(x, 0, 0, 0, 0, 6, 10, -2, 14);
        type(x, 0x7a, 0x78, 59, 1, 2, 3, 4, 5, 6, 7, 8, 9, 10, 11, 12, 13, 14, 15, 16);
        due("M 1, DAM 0: the 16 bytes as they are", x.unfold(), 40);
        dueOut(x, 0x60, 0, 0, 0, 0, 0, 59, 64, 0x20, 1, 0x0d, 0xb8, 0, 0, 0, 0, 3, 2, 3, 4, 5, 6, 7, 8,
                1, 2, 3, 4, 5, 6, 7, 8, 9, 10, 11, 12, 13, 14, 15, 16);
        type(x, 0x6b, 0x3b, 0x8f, 255, 254, 1, 7);
        due("unfold()", x.unfold(), 40);
        dueOut(x, 0x60, 0x2f, 255, 254, 0, 0, 1, 255, 0xfe, 0x80, 0, 0, 0, 0, 0, 0, 3, 2, 3, 4, 5, 6, 7, 8,
                255, 2, 0, 0, 0, 0, 0, 0, 0, 0, 0, 0, 0, 0, 0, 7);
    }

    private static void unfoldPorts() {
        about = "promise 11, PORTS";
        Used x = new Used();
        int[][] all = {{240, 1, 2, 3, 4}, {241, 129, 131, 133}, {242, 131, 133, 135}, {243, 0x9e}, {243, 0xe9}};
        int[][] ports = {{1, 2, 3, 4}, {129, 131, 240, 133}, {240, 131, 133, 135}, {240, 0xb9, 240, 0xbe},
            {240, 0xbe, 240, 0xb9}};
        for (int p = 0; p < all.length; p++) {
            type(x, 0x7e, 0x33);
            behind(x, all[p]);
            x.type(0x0708090aL, 4);
            due("unfold() of P " + p, x.unfold(), 50);
            for (int i = 0; i < 4; i++) {
                due("out(" + (40 + i) + ")", x.out(40 + i), ports[p][i]);
            }
            due("KIND", x.out(6), 17);
            due("n", x.out(4) * 256 + x.out(5), 10);
            due("n again", x.out(44) * 256 + x.out(45), 10);
            due("byte 46", x.out(46), 7);
            due("byte 47", x.out(47), 8);
            due("byte 49", x.out(49), 10);
            dueTold(x, 0, 0, 3, 0, 3, 3, all[p][0] - 240, 2 + all[p].length + 2);
        }
    }

    private static void unfoldTooLong() {
        about = "promise 11, FAULT 7";
        Used x = new Used();
        type(x, 0x7a, 0x33, 59);
        for (int i = 0; i < 70; i++) {
            x.type(i, 8);
        }
        due("560 bytes are left", x.unfold(), 600);
        due("the last one", x.out(599), 69);
        x.type(0, 1);
        due("561 bytes are left", x.unfold(), -17);
        dueTold(x, 7, 564, 0, 0, 0, 0, 0, 0);
        due("THE OUT stays", x.out(-1), 600);
        type(x, 0x7e, 0x33, 243, 0, 1, 2);
        for (int i = 0; i < 69; i++) {
            x.type(i, 8);
        }
        due("552 bytes and PORTS", x.unfold(), 600);
        x.type(0, 1);
        due("553 bytes and PORTS", x.unfold(), -17);
        dueTold(x, 7, 559, 0, 0, 0, 0, 0, 0);
    }

    // ---- 12

    private static void told() {
        about = "promise 12";
        Used x = new Used();
        due("told(-1)", x.told(-1), -1);
        due("told(8)", x.told(8), -1);
        x.context(5, true, NET);
        type(x, 0x76, 0xda, 0x50, 7, 0, 0, 0, 0, 0, 0, 0, 1, 5, 1, 2, 3, 242, 1, 2, 3, 9, 9, 100);
        due("unfold()", x.unfold(), 49);
        dueTold(x, 0, 0, 2, 1, 5, 10, 2, 22);
        due("told(8)", x.told(8), -1);
        put(x, 0, 0x7a, 0x33, 59);
        due("hear(0)", x.hear(0), 2);
        dueTold(x, 0, 0, 2, 1, 5, 10, 2, 22);
        put(x, 0, 0x7a, 0x34, 59);
        due("hear(0)", x.hear(0), 0);
        dueTold(x, 0, 0, 2, 1, 5, 10, 2, 22);
        dueFault(x, 3, 1, 0x7a, 0x34, 59);
        type(x, 0x7a, 0x33, 59);
        x.unfold();
        dueTold(x, 0, 0, 3, 0, 3, 3, -2, 3);
    }

    // ---- 13

    private static void sliceWrong() {
        about = "promise 13, BAD, NOT, FULL";
        Used x = new Used();
        due("of nothing", x.slice(40, 0), -2);
        due("BAD ahead of NOT", x.slice(39, 0), -1);
        packet(x, 100, NET, 1, NET, 2);
        put(x, 0, 1, 2, 3);
        packet(x, 100, NET, 1, NET, 2);
        due("slice(39, 0)", x.slice(39, 0), -1);
        due("slice(121, 0)", x.slice(121, 0), -1);
        due("slice(60, -1)", x.slice(60, -1), -1);
        due("slice(60, 65536)", x.slice(60, 65536), -1);
        dueFrame(x, 0, 1, 2, 3);
        x.poke(5, 1);
        due("n is not as told", x.slice(60, 0), -2);
        x.poke(5, 1);
        x.poke(7, 1);
        due("a head of 36 bytes: 40 take it", x.slice(40, 0), 5);
        dueCounts(x, 0, 0, 0, 5);
        x.poke(3, 1);
        due("a head of 39 bytes: FULL", x.slice(40, 0), -3);
        dueCounts(x, 0, 0, 0, 5);
        due("a head of 39 bytes: FULL", x.slice(42, 0), -3);
        due("a head of 39 bytes: 43 take it", x.slice(43, 65535), 4);
        due("its first FRAME", x.frame(0, -1), 43);
        due("TAG", x.frame(3, 2) * 256 + x.frame(3, 3), 65535);
        due("the last takes 36 at once", x.frame(3, -1), 41);
    }

    private static void sliceOne() {
        about = "promise 13, one FRAME";
        Used x = new Used();
        packet(x, 37, PLAIN, OWN_OF_SHORT_0, PLAIN, OWN_OF_SHORT_0);
        due("40 bytes for 40", x.slice(40, 9), 1);
        due("frame(0, -1)", x.frame(0, -1), 40);
        due("frame(0, 0)", x.frame(0, 0), 0x7a);
        due("frame(0, 39)", x.frame(0, 39), 37);
        packet(x, 38, PLAIN, OWN_OF_SHORT_0, PLAIN, OWN_OF_SHORT_0);
        due("41 bytes for 40", x.slice(40, 9), 2);
        due("41 bytes for 41", x.slice(41, 9), 1);
        due("the others went", x.frame(1, -1), -1);
    }

    private static void sliceMany() {
        about = "promise 13, several FRAMES";
        Used x = new Used();
        packet(x, 41, PLAIN, OWN_OF_SHORT_0, PLAIN, OWN_OF_SHORT_0);
        due("slice(40, 0x1234)", x.slice(40, 0x1234), 2);
        int[] first = new int[39];
        System.arraycopy(bytes(192, 81, 0x12, 0x34, 0x7a, 0x33, 59), 0, first, 0, 7);
        for (int i = 7; i < 39; i++) {
            first[i] = i - 6;
        }
        dueFrame(x, 0, first);
        dueFrame(x, 1, 224, 81, 0x12, 0x34, 9, 33, 34, 35, 36, 37, 38, 39, 40, 41);
        ports(x, 0xf0b0, 0xf0b1, 80);
        due("slice(45, 7) with PORTS", x.slice(45, 7), 3);
        due("frame(0, -1)", x.frame(0, -1), 42);
        due("frame(0, 9)", x.frame(0, 9), 11);
        due("frame(0, 10)", x.frame(0, 10), 1);
        due("frame(1, -1)", x.frame(1, -1), 45);
        due("frame(1, 4)", x.frame(1, 4), 10);
        due("frame(1, 5)", x.frame(1, 5), 33);
        due("frame(2, -1)", x.frame(2, -1), 13);
        due("frame(2, 4)", x.frame(2, 4), 15);
        due("frame(2, 12)", x.frame(2, 12), 80);
        packet(x, 240, PLAIN, OWN_OF_SHORT_0, PLAIN, OWN_OF_SHORT_0);
        due("slice(120, 0)", x.slice(120, 0), 3);
        due("z / 256", x.frame(0, 0), 193);
        due("z modulo 256", x.frame(0, 1), 24);
        due("z / 256", x.frame(1, 0), 225);
        due("the last takes what is left", x.frame(2, -1), 5 + 16);
        packet(x, 226, PLAIN, OWN_OF_SHORT_0, PLAIN, OWN_OF_SHORT_0);
        due("114 bytes left for 120", x.slice(120, 0), 2);
        due("all of them at once", x.frame(1, -1), 119);
        packet(x, 227, PLAIN, OWN_OF_SHORT_0, PLAIN, OWN_OF_SHORT_0);
        due("115 bytes left for 120", x.slice(120, 0), 2);
        due("all of them at once", x.frame(1, -1), 120);
        packet(x, 228, PLAIN, OWN_OF_SHORT_0, PLAIN, OWN_OF_SHORT_0);
        due("116 bytes left for 120", x.slice(120, 0), 3);
        due("112 of them", x.frame(1, -1), 117);
        due("4 of them", x.frame(2, -1), 9);
    }

    // ---- 14 to 16

    private static void frame() {
        about = "promise 14";
        Used x = new Used();
        due("frame(0, -1)", x.frame(0, -1), -1);
        put(x, 0, 7, 8);
        put(x, 1, 9);
        dueFrame(x, 0, 7, 8);
        dueFrame(x, 1, 9);
        due("frame(2, -1)", x.frame(2, -1), -1);
        due("frame(-1, 0)", x.frame(-1, 0), -1);
        due("frame(0, -2)", x.frame(0, -2), -1);
        due("frame(40, -1)", x.frame(40, -1), -1);
        due("frame(0, 120)", x.frame(0, 120), -1);
    }

    private static void spoil() {
        about = "promise 15";
        Used x = new Used();
        due("spoil(0, 0, 1)", x.spoil(0, 0, 1), -1);
        put(x, 0, 7, 8);
        put(x, 1, 9);
        due("spoil(1, 0, 0x1f0)", x.spoil(1, 0, 0x1f0), 0xf9);
        due("spoil(0, 1, -1)", x.spoil(0, 1, -1), 0xf7);
        dueFrame(x, 0, 7, 0xf7);
        dueFrame(x, 1, 0xf9);
        due("THE TAPE stays", x.poke(0, 0), 9);
        due("spoil(1, 1, 1)", x.spoil(1, 1, 1), -1);
        due("spoil(1, -1, 1)", x.spoil(1, -1, 1), -1);
        due("spoil(2, 0, 1)", x.spoil(2, 0, 1), -1);
        due("spoil(-1, 0, 1)", x.spoil(-1, 0, 1), -1);
    }

    private static void put() {
        about = "promise 16";
        Used x = new Used();
        due("put(0) of nothing", x.put(0), -2);
        due("BAD ahead of NOT", x.put(1), -1);
        due("put(-1)", x.put(-1), -1);
        x.type(0x0102, 2);
        due("put(0)", x.put(0), 1);
        due("THE TAPE stays", x.cut(2), 0);
        due("put(2)", x.put(2), -1);
        due("put(1)", x.put(1), 2);
        type(x, 3);
        due("put(0) in place", x.put(0), 2);
        dueFrame(x, 0, 3);
        dueFrame(x, 1, 1, 2);
        x.cut(0);
        for (int i = 0; i < 15; i++) {
            x.type(i, 8);
        }
        due("120 bytes", x.put(2), 3);
        due("all of them", x.frame(2, 119), 14);
        x.type(0, 1);
        due("121 bytes", x.put(2), -2);
        due("FRAME 2 stays", x.frame(2, -1), 120);
        x.cut(1);
        for (int k = 3; k < 40; k++) {
            due("put(40) with " + k, x.put(40), -1);
            due("put(" + k + ")", x.put(k), k + 1);
        }
        due("put(40)", x.put(40), -3);
        due("put(41)", x.put(41), -1);
        due("put(39)", x.put(39), 40);
        x.cut(0);
        due("NOT ahead of FULL", x.put(40), -2);
        due("there are 40", x.count(3), 40);
    }

    // ---- 17

    private static void hearWhole() {
        about = "promise 17, squeezed whole";
        Used x = new Used();
        due("hear(0)", x.hear(0), -1);
        due("hear(-1)", x.hear(-1), -1);
        due("BAD is not dropped", x.count(5), 0);
        packet(x, 3, PLAIN, OWN_OF_SHORT_0, PLAIN, 5);
        x.slice(40, 0);
        due("hear(0)", x.hear(0), 2);
        due("hear(1)", x.hear(1), -1);
        due("out(-1)", x.out(-1), 43);
        due("out(39)", x.out(39), 5);
        due("out(42)", x.out(42), 3);
        dueCounts(x, 0, 0, 0, 1, 1, 0, 0, 0, 0);
        put(x, 0, 0x7a, 0x34, 59);
        due("a FAULT", x.hear(0), 0);
        due("THE OUT stays", x.out(-1), 43);
        dueCounts(x, 0, 0, 0, 1, 1, 1, 0, 0, 0);
    }

    private static void hearParts() {
        about = "promise 17, parts";
        Used x = new Used();
        ports(x, 0xf0b0, 0xf0b1, 80);
        x.slice(45, 7);
        due("hear(2)", x.hear(2), 1);
        dueCounts(x, 1, 1, 8, 3, 0, 0);
        due("hear(2) again", x.hear(2), 0);
        due("hear(0)", x.hear(0), 1);
        dueCounts(x, 1, 2, 8 + 80, 3, 0, 1);
        due("THE OUT is empty still", x.out(-1), 0);
        due("hear(1)", x.hear(1), 2);
        dueCounts(x, 0, 0, 0, 3, 1, 1, 0, 0, 0);
        due("all came", x.out(-1), 128);
        for (int i = 0; i < 128; i++) {
            due("byte " + i, x.out(i), x.poke(i, 0));
        }
        due("hear(1) begins another one", x.hear(1), 1);
        about = "promise 17, n of a first FRAME is by z";
        x = new Used();
        put(x, 0, 193, 0x02, 0, 0, 0x7e, 0x33, 243, 0x12, 7, 8);
        due("hear(0)", x.hear(0), 1);
        for (int k = 6; k < 32; k += 13) {
            due("part " + k, hearPart(x, 258, 0, k, 104, 9), 1);
        }
        due("the last part", hearPart(x, 258, 0, 32, 2, 10), 2);
        due("n", x.out(4) * 256 + x.out(5), 218);
        due("n again", x.out(44) * 256 + x.out(45), 218);
        due("byte 43", x.out(43), 0xb2);
        due("byte 48", x.out(48), 9);
        due("byte 257", x.out(257), 10);
    }

    private static void hearDropped() {
        about = "promise 17, dropped";
        Used x = new Used();
        int[][] all = {{0}, {0x5f, 1, 2, 3, 4, 5, 6}, {0x80, 0x33, 59}, {200, 48, 0, 0, 0x7a, 0x33, 59},
            {191, 48, 0, 0, 0x7a, 0x33, 59}, {192, 48, 0, 0}, {192, 48, 0, 0, 0x7a}, {192, 48, 0, 0, 0x7a, 0x34, 59},
            {192, 39, 0, 0, 0x7a, 0x33, 59}, {194, 89, 0, 0, 0x7a, 0x33, 59}, {192, 40, 0, 0, 0x7a, 0x33, 59, 1},
            {192, 60, 0, 0, 0x7a, 0x33, 59, 1}, {192, 47, 0, 0, 0x7e, 0x33, 243, 1, 2, 3}, {224, 48, 0, 0, 0},
            {223, 48, 0, 0, 0, 1, 2, 3, 4, 5, 6, 7, 8}, {232, 48, 0, 0, 0, 1, 2, 3, 4, 5, 6, 7, 8},
            {224, 39, 0, 0, 4, 1, 2, 3, 4, 5, 6, 7}, {226, 89, 0, 0, 0, 1, 2, 3, 4, 5, 6, 7, 8},
            {224, 48, 0, 0, 5, 1, 2, 3, 4, 5, 6, 7, 8, 9}, {224, 48, 0, 0, 6, 1, 2, 3, 4, 5, 6, 7, 8},
            {224, 48, 0, 0, 0, 1, 2, 3, 4, 5, 6, 7}, {224, 48, 0, 0, 255, 1, 2, 3, 4, 5, 6, 7, 8}};
        for (int i = 0; i < all.length; i++) {
            put(x, 0, all[i]);
            due("hear(0) of frame " + i, x.hear(0), 0);
            dueCounts(x, 0, 0, 0, 1, 0, i + 1);
        }
        put(x, 0, 192, 40, 0, 0, 0x7a, 0x33, 59);
        due("a first FRAME with all", x.hear(0), 2);
        put(x, 0, 192, 43, 0, 0, 0x7a, 0x33, 59, 1, 2, 3);
        due("a first FRAME with all, of 43", x.hear(0), 2);
        due("out(42)", x.out(42), 3);
        put(x, 0, 194, 88, 0, 0, 0x7a, 0x33, 59);
        due("z is 600", x.hear(0), 1);
        due("a further one of all 40", hearPart(x, 40, 0, 0, 40, 5), 2);
        due("out(0)", x.out(0), 5);
        due("one byte at the end", hearPart(x, 41, 0, 5, 1, 5), 1);
        due("one byte, not at the end", hearPart(x, 41, 0, 4, 1, 5), 0);
        due("9 bytes meet that one", hearPart(x, 41, 0, 4, 9, 5), 1);
        dueCounts(x, 2, 2, 49, 1, 3, 23, 0, 1);
        due("the last place of all", hearPart(x, 600, 0, 74, 8, 5), 1);
        dueCounts(x, 2, 3, 57, 1, 3, 23, 0, 1);
        due("once more", hearPart(x, 600, 0, 74, 8, 5), 0);
    }

    private static void hearMeeting() {
        about = "promise 17, parts that meet";
        Used x = new Used();
        due("16 .. 31", hearPart(x, 64, 1, 2, 16, 1), 1);
        due("40 .. 47", hearPart(x, 64, 1, 5, 8, 2), 1);
        due("the same", hearPart(x, 64, 1, 2, 16, 3), 0);
        dueCounts(x, 1, 2, 24, 1, 0, 1, 0, 0);
        due("16 .. 23 meets", hearPart(x, 64, 1, 2, 8, 3), 1);
        dueCounts(x, 1, 1, 8, 1, 0, 1, 0, 1);
        due("16 .. 31 meets", hearPart(x, 64, 1, 2, 16, 3), 1);
        dueCounts(x, 1, 1, 16, 1, 0, 1, 0, 2);
        due("0 .. 15 does not", hearPart(x, 64, 1, 0, 16, 4), 1);
        due("32 .. 39 does not", hearPart(x, 64, 1, 4, 8, 4), 1);
        dueCounts(x, 1, 3, 40, 1, 0, 1, 0, 2);
        due("8 .. 47 meets three", hearPart(x, 64, 1, 1, 40, 5), 1);
        dueCounts(x, 1, 1, 40, 1, 0, 1, 0, 3);
        due("24 .. 31 lies in it", hearPart(x, 64, 1, 3, 8, 6), 1);
        dueCounts(x, 1, 1, 8, 1, 0, 1, 0, 4);
        due("all 64 meet it and are whole", hearPart(x, 64, 1, 0, 64, 7), 2);
        dueCounts(x, 0, 0, 0, 1, 1, 1, 0, 5);
        due("out(-1)", x.out(-1), 64);
        due("out(24)", x.out(24), 7);
        about = "promise 17, it begins at the time when parts met";
        due("0 .. 15", hearPart(x, 64, 1, 0, 16, 1), 1);
        x.pass(50);
        due("0 .. 7 meets", hearPart(x, 64, 1, 0, 8, 1), 1);
        x.pass(59);
        due("59 later", hearPart(x, 64, 1, 1, 8, 1), 1);
        dueCounts(x, 1, 2, 16, 1, 1, 1, 0, 6, 109);
        x.pass(1);
        due("60 later", hearPart(x, 64, 1, 1, 8, 1), 1);
        dueCounts(x, 1, 1, 8, 1, 1, 1, 1, 6, 110);
    }

    private static void hearHeaps() {
        about = "promise 17, HEAPS";
        Used x = new Used();
        due("z 64, TAG 1", hearPart(x, 64, 1, 0, 8, 1), 1);
        due("z 72, TAG 1", hearPart(x, 72, 1, 0, 8, 2), 1);
        due("z 64, TAG 256", hearPart(x, 64, 256, 0, 8, 3), 1);
        dueCounts(x, 3, 3, 24);
        due("a fourth one", hearPart(x, 64, 2, 0, 8, 4), 0);
        due("a fourth one, whole in itself", hearPart(x, 40, 2, 0, 40, 4), 0);
        dueCounts(x, 3, 3, 24, 1, 0, 2, 0, 0);
        due("the second one goes on", hearPart(x, 72, 1, 1, 64, 5), 2);
        due("its first byte", x.out(0), 2);
        due("its last byte", x.out(71), 5);
        dueCounts(x, 2, 2, 16, 1, 1, 2);
        due("now there is room", hearPart(x, 64, 2, 1, 56, 4), 1);
        due("the third one goes on", hearPart(x, 64, 256, 1, 56, 6), 2);
        due("its first byte", x.out(0), 3);
        due("the first one goes on", hearPart(x, 64, 1, 1, 56, 7), 2);
        due("its first byte", x.out(0), 1);
        due("the fourth one goes on", hearPart(x, 64, 2, 0, 8, 8), 2);
        due("its first byte", x.out(0), 8);
        due("its last byte", x.out(63), 4);
        dueCounts(x, 0, 0, 0, 1, 4, 2);
    }

    private static void hearByTime() {
        about = "promise 17, time";
        Used x = new Used();
        hearPart(x, 64, 1, 0, 8, 1);
        x.pass(1);
        hearPart(x, 64, 2, 0, 8, 1);
        x.pass(58);
        hearPart(x, 64, 3, 0, 8, 1);
        due("59 later the first is there", hearPart(x, 64, 1, 0, 8, 1), 0);
        dueCounts(x, 3, 3, 24, 1, 0, 1, 0, 0, 59);
        x.pass(1);
        dueCounts(x, 3, 3, 24, 1, 0, 1, 0, 0, 60);
        put(x, 0, 224, 39, 0, 0, 0, 1);
        due("a FRAME that is dropped ahead of that", x.hear(0), 0);
        dueCounts(x, 3, 3, 24, 1, 0, 2, 0, 0, 60);
        due("a fourth one: the first went", hearPart(x, 64, 4, 0, 8, 1), 1);
        dueCounts(x, 3, 3, 24, 1, 0, 2, 1, 0, 60);
        x.pass(1000);
        due("all went", hearPart(x, 64, 4, 0, 8, 1), 1);
        dueCounts(x, 1, 1, 8, 1, 0, 2, 4, 0, 1060);
    }

    // ---- 18, 19

    private static void pass() {
        about = "promise 18";
        Used x = new Used();
        due("pass(0)", x.pass(0), 0);
        due("pass(1000)", x.pass(1000), 1000);
        due("pass(1001)", x.pass(1001), -1);
        due("pass(-1)", x.pass(-1), -1);
        due("pass(7)", x.pass(7), 1007);
        due("count(8)", x.count(8), 1007);
    }

    private static void count() {
        about = "promise 19";
        Used x = new Used();
        due("count(-1)", x.count(-1), -1);
        due("count(9)", x.count(9), -1);
        hearPart(x, 64, 1, 0, 8, 1);
        hearPart(x, 64, 1, 2, 16, 1);
        hearPart(x, 64, 2, 1, 24, 1);
        hearPart(x, 64, 1, 2, 16, 1);
        putPart(x, 1, 64, 1, 0, 16, 1);
        x.hear(1);
        x.pass(70);
        put(x, 2, 0x7a, 0x33, 59);
        x.hear(2);
        dueCounts(x, 2, 2, 40, 3, 1, 1, 0, 1, 70);
        hearPart(x, 64, 9, 0, 8, 1);
        dueCounts(x, 1, 1, 8, 3, 1, 1, 2, 1, 70);
    }
}
