/**
 * Calls of any numbers in any state, far more of them than an object is used for: none throws, each
 * answers within the bounds of what it may answer, and the same calls give the same answers again.
 */
final class AnyCallTest {
    private static final int OBJECTS = 40;
    private static final int CALLS = 20000;
    private static final int[] NUMBERS = {
        0, 1, 2, 3, 5, 7, 8, 9, 15, 16, 17, 39, 40, 41, 47, 48, 60, 64, 119, 120, 121, 255, 256, 560, 561, 600, 639, 640,
        641, 1000, 1001, 65535, 65536, 1048575, 1048576, -1, -2, -40, Integer.MAX_VALUE, Integer.MIN_VALUE};
    private static final long[] LONGS = {
        0, 1, -1, Model.PLAIN, 0x000000fffe000000L, 0x0200000000000000L, 0xff02L << 48, Long.MIN_VALUE, Long.MAX_VALUE,
        0x7a3b3b0900000000L, 0x7e33f31200000000L, 0xc030000000000000L, 0xe030000000000000L, 0xe258000100000000L};
    /** The most that a call answers, in the order of callOf(). */
    private static final int[] MOST = {
        1, 1, 640, 640, 640, 255, 640, 640, 640, 600, 640, 40, 255, 255, 40, 2, Integer.MAX_VALUE, Integer.MAX_VALUE};

    private long state;

    private AnyCallTest(int run) {
        state = run * 0x9e3779b97f4a7c15L + 99;
    }

    public static void main(String[] args) {
        for (int run = 0; run < OBJECTS; run++) {
            Check.same("the answers of run " + run + " once more", new AnyCallTest(run).sum(), new AnyCallTest(run).sum());
        }
        Check.end("AnyCallTest");
    }

    private int below(int n) {
        state = state * 6364136223846793005L + 1442695040888963407L;
        return (int) ((state >>> 33) % n);
    }

    private int number() {
        return below(3) == 0 ? NUMBERS[below(NUMBERS.length)] : below(44) - 2;
    }

    private long wide() {
        return LONGS[below(LONGS.length)] ^ (below(4) == 0 ? (long) below(65536) << below(64) : 0);
    }

    private long sum() {
        ShortFrames x = new ShortFrames();
        long sum = 0;
        for (int i = 0; i < CALLS; i++) {
            int which = below(18);
            int answer = callOf(x, which);
            sum = sum * 31 + answer;
            boolean clock = which > 15;
            Check.same("call " + which + " is within its bounds", clock || answer >= -17 && answer <= MOST[which] ? 1 : 0, 1);
        }
        return sum;
    }

    private int callOf(ShortFrames x, int which) {
        switch (which) {
            case 0: return x.context(number(), below(2) == 0, wide());
            case 1: return x.link(number(), below(2) == 0, wide());
            case 2: return x.type(wide(), number());
            case 3: return x.head(number(), number(), below(9), 17, number(), wide(), wide(), wide(), wide());
            case 4: return below(4) == 0 ? x.cut(number()) : x.type(wide(), 8);
            case 5: return x.poke(number(), number());
            case 6: return x.take();
            case 7: return x.out(number());
            case 8: return x.squeeze();
            case 9: return x.unfold();
            case 10: return x.told(number());
            case 11: return x.slice(number(), number());
            case 12: return x.frame(number(), number());
            case 13: return x.spoil(number(), number(), number());
            case 14: return x.put(number());
            case 15: return x.hear(number());
            case 16: return x.pass(number());
            default: return x.count(number());
        }
    }
}
