/** What tests by hand have in common: THE TAPE typed, FRAMES put, answers looked at. */
abstract class Hand {
    static final long PLAIN = 0xfe80000000000000L;
    static final long NET = 0x20010db800000000L;
    static final long OWN_OF_SHORT_0 = 0x000000fffe000000L;
    static final int LEAST = Integer.MIN_VALUE;
    static final int MOST = Integer.MAX_VALUE;
    static final long[] LONGS = {0, 1, -1, 255, 65535, 65536, Long.MIN_VALUE, Long.MAX_VALUE, 0x0102030405060708L,
        0x8182838485868788L};

    /** What the answers that are looked at are about. */
    static String about = "";

    static void due(String call, long got, long due) {
        Check.same(about + ": " + call, got, due);
    }

    static int[] bytes(int... b) {
        return b;
    }

    static void behind(Used x, int... bytes) {
        for (int i = 0; i < bytes.length; i += 8) {
            int n = Math.min(8, bytes.length - i);
            long w = 0;
            for (int k = 0; k < n; k++) {
                w = w << 8 | bytes[i + k] & 255;
            }
            x.type(w, n);
        }
    }

    /** 1, 2, 3 .. */
    static int[] rising(int n) {
        int[] b = new int[n];
        for (int i = 0; i < n; i++) {
            b[i] = i + 1;
        }
        return b;
    }

    static void type(Used x, int... bytes) {
        x.cut(0);
        behind(x, bytes);
    }

    /** THE TAPE becomes a PACKET with n bytes 1, 2, 3 .. behind its head. */
    static void packet(Used x, int n, long source, long source2, long goal, long goal2) {
        x.cut(0);
        x.head(0, 0, n, 59, 64, source, source2, goal, goal2);
        behind(x, rising(n));
    }

    /** THE TAPE becomes a PACKET with PORTS, PLAIN and OWN addresses, and more bytes 1, 2, 3 .. */
    static void ports(Used x, int one, int other, int more) {
        x.cut(0);
        x.head(0, 0, 8 + more, 17, 64, PLAIN, OWN_OF_SHORT_0, PLAIN, OWN_OF_SHORT_0);
        x.type((long) one << 48 | (long) other << 32 | (8L + more) << 16 | 0x0a0b, 8);
        behind(x, rising(more));
    }

    static void dueOut(Used x, int... bytes) {
        due("out(-1)", x.out(-1), bytes.length);
        for (int i = 0; i < bytes.length; i++) {
            due("out(" + i + ")", x.out(i), bytes[i]);
        }
        due("out(" + bytes.length + ")", x.out(bytes.length), -1);
    }

    static void dueFrame(Used x, int k, int... bytes) {
        due("frame(" + k + ", -1)", x.frame(k, -1), bytes.length);
        for (int i = 0; i < bytes.length; i++) {
            due("frame(" + k + ", " + i + ")", x.frame(k, i), bytes[i]);
        }
        due("frame(" + k + ", " + bytes.length + ")", x.frame(k, bytes.length), -1);
    }

    static void dueTold(Used x, int... numbers) {
        for (int i = 0; i < numbers.length; i++) {
            due("told(" + i + ")", x.told(i), numbers[i]);
        }
    }

    static void dueCounts(Used x, int... numbers) {
        for (int i = 0; i < numbers.length; i++) {
            due("count(" + i + ")", x.count(i), numbers[i]);
        }
    }

    static void dueFault(Used x, int fault, int place, int... bytes) {
        type(x, bytes);
        int had = x.out(-1);
        due("unfold()", x.unfold(), -10 - fault);
        dueTold(x, fault, place, 0, 0, 0, 0, 0, 0);
        due("THE OUT stays", x.out(-1), had);
    }

    /** THE TAPE, SQUEEZED, is these bytes, and they unfold to it again. */
    static void dueSqueezed(Used x, int... bytes) {
        int n = length(x);
        int[] tape = new int[n];
        for (int i = 0; i < n; i++) {
            tape[i] = x.poke(i, 0);
        }
        due("squeeze()", x.squeeze(), bytes.length);
        dueOut(x, bytes);
        due("take()", x.take(), bytes.length);
        due("unfold()", x.unfold(), n);
        dueOut(x, tape);
    }

    static int length(Used x) {
        int n = x.type(0, 1) - 1;
        x.cut(n);
        return n;
    }

    static void put(Used x, int k, int... bytes) {
        type(x, bytes);
        x.put(k);
    }

    /** A further FRAME of a z and a TAG: the place by 8, how many bytes, what they are. */
    static void putPart(Used x, int k, int z, int tag, int place, int n, int what) {
        int[] b = new int[5 + n];
        b[0] = 224 + z / 256;
        b[1] = z % 256;
        b[2] = tag / 256;
        b[3] = tag % 256;
        b[4] = place;
        for (int i = 5; i < b.length; i++) {
            b[i] = what;
        }
        put(x, k, b);
    }

    static int hearPart(Used x, int z, int tag, int place, int n, int what) {
        putPart(x, 0, z, tag, place, n, what);
        return x.hear(0);
    }

    /** THE TAPE becomes a PACKET that is SQUEEZED to 3 bytes and n more. */
    static void small(Used x, int n) {
        packet(x, n, PLAIN, OWN_OF_SHORT_0, PLAIN, OWN_OF_SHORT_0);
    }

    static void dueTape(Used x, int... bytes) {
        for (int i = 0; i < bytes.length; i++) {
            due("byte " + i + " of THE TAPE", x.poke(i, 0), bytes[i]);
        }
        due("none behind", x.poke(bytes.length, 0), -1);
    }

    static void fill(Used x, int n) {
        x.cut(0);
        behind(x, new int[n]);
    }

    /** The eight bytes of THE OUT from a place on. */
    static long eight(Used x, int from) {
        long v = 0;
        for (int i = 0; i < 8; i++) {
            v = v << 8 | x.out(from + i);
        }
        return v;
    }
}
