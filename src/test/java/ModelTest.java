/**
 * Long runs of calls, the same at every start, on the class and on the model side by side: every
 * answer must be the same. Each run keeps to 512 calls.
 */
final class ModelTest {
    private static final int RUNS = 6000;
    private static final long[] FIRSTS = {
        Model.PLAIN, Model.PLAIN, Model.PLAIN, 0, 0x2001_0db8_0000_0000L, 0x2001_0db8_0000_0001L,
        0xff02_0000_0000_0000L, 0xff05_0000_0000_0000L, 0xff02_0000_0000_0001L, 0xfe80_0000_0000_0001L,
        0xffff_ffff_ffff_ffffL, 0xff00_0000_0000_0000L, 0xff01_0000_0100_0000L};
    private static final long[] LASTS = {
        0, 1, 2, 0xff, 0x100, 0xff_ffffL, 0x100_0000L, 0xff_ffff_ffffL, 0x100_0000_0000L,
        0x0000_00ff_fe00_0000L, 0x0000_00ff_fe00_0001L, 0x0000_00ff_fe00_ffffL, 0x0000_00ff_fe01_0000L,
        0x0200_0000_0000_0001L, 0x0200_0000_0000_0000L, 0x8000_00ff_fe00_0000L, -1};
    private static final int[] PORTS = {0xf0b0, 0xf0b5, 0xf0bf, 0xf0af, 0xf0c0, 0xf000, 0xf0ff, 0xefff, 0xf100, 0, 65535};
    private static final int[] TRAFFICS = {0, 0, 1, 3, 4, 64, 192, 252, 255};
    private static final int[] LABELS = {0, 0, 1, 65535, 65536, 1048575};
    private static final int[] HOPS = {0, 1, 2, 63, 64, 65, 254, 255};
    private static final int[] BEHINDS = {0, 1, 7, 8, 9, 16, 20, 40, 41, 61, 80, 100, 120, 200};
    private static final int[] SIZES = {40, 41, 47, 48, 52, 60, 64, 80, 119, 120};

    private final Used real = new Used();
    private final Model model = new Model();
    private final int run;
    private long state;
    private int calls = 0;

    private ModelTest(int run) {
        this.run = run;
        state = run * 0x9e3779b97f4a7c15L + 12345;
    }

    public static void main(String[] args) {
        for (int run = 1; run <= RUNS; run++) {
            new ModelTest(run).go();
        }
        Check.end("ModelTest");
    }

    private int below(int n) {
        state = state * 6364136223846793005L + 1442695040888963407L;
        return (int) ((state >>> 33) % n);
    }

    private long wide() {
        return (long) below(0x10000) << 48 ^ (long) below(0x1000000) << 24 ^ below(0x1000000);
    }

    private int one(int[] of) {
        return of[below(of.length)];
    }

    private long one(long[] of) {
        return of[below(of.length)];
    }

    /** Whether a call more may be made: it stands behind every call. */
    private boolean same(String what, int got, int due) {
        calls++;
        Check.same("run " + run + ", call " + calls + ", " + what, got, due);
        return calls < 512;
    }

    private boolean may(int n) {
        return calls + n <= 512;
    }

    private void go() {
        for (int i = 0; i < 2000 && may(1); i++) {
            switch (below(16)) {
                case 0: context(); break;
                case 1: link(); break;
                case 2: case 3: packet(); break;
                case 4: squeezeAndBack(); break;
                case 5: anyBytes(); break;
                case 6: spoiltUnfold(); break;
                case 7: case 8: slice(); break;
                case 9: case 10: hearAll(); break;
                case 11: hearSome(); break;
                case 12: spoil(); break;
                case 13: put(); break;
                case 14: pass(); break;
                default: looks(); break;
            }
        }
    }

    private void context() {
        int i = below(10) == 0 ? below(40) - 12 : below(4) * 5;
        boolean there = below(4) != 0;
        long bytes = one(FIRSTS);
        same("context(" + i + ", " + there + ", " + bytes + ")",
                real.context(i, there, bytes), model.context(i, there, bytes));
    }

    private void link() {
        int which = below(10) == 0 ? below(9) - 4 : below(2);
        boolean isLong = below(2) == 0;
        long v = below(3) == 0 ? wide() : one(LASTS);
        same("link(" + which + ", " + isLong + ", " + v + ")", real.link(which, isLong, v), model.link(which, isLong, v));
    }

    private boolean type(long w, int n) {
        return same("type(" + w + ", " + n + ")", real.type(w, n), model.type(w, n));
    }

    private void cut(int n) {
        same("cut(" + n + ")", real.cut(n), model.cut(n));
    }

    private void packet() {
        int n = below(40) == 0 ? 540 + below(21) : below(3) == 0 ? below(130) : one(BEHINDS);
        if (!may(n / 8 + 8)) {
            looks();
            return;
        }
        if (below(12) != 0) {
            cut(0);
        }
        int told = below(20) == 0 ? below(600) - 20 : n;
        int kind = below(2) == 0 ? 17 : below(8) == 0 ? below(300) - 20 : below(256);
        head(told, kind);
        int left = n;
        if (left >= 8 && below(5) != 0) {
            int behind = below(6) == 0 ? below(600) : n;
            type((long) one(PORTS) << 48 | (long) one(PORTS) << 32 | (long) behind << 16 | below(65536), 8);
            left -= 8;
        }
        while (left > 0) {
            int some = Math.min(left, 8);
            type(wide(), some);
            left -= some;
        }
    }

    private void head(int n, int kind) {
        int t = below(30) == 0 ? below(400) - 70 : below(2) == 0 ? one(TRAFFICS) : below(256);
        int l = below(30) == 0 ? below(3) * 1048576 - 1048576 : below(2) == 0 ? one(LABELS) : below(1048576);
        int hops = below(30) == 0 ? below(400) - 70 : below(2) == 0 ? one(HOPS) : below(256);
        long s = one(FIRSTS);
        long s2 = last(0);
        long g = one(FIRSTS);
        long g2 = last(1);
        same("head(" + t + ", " + l + ", " + n + ", " + kind + ", " + hops + ", " + s + ", " + s2 + ", " + g
                + ", " + g2 + ")", real.head(t, l, n, kind, hops, s, s2, g, g2),
                model.head(t, l, n, kind, hops, s, s2, g, g2));
    }

    private long last(int which) {
        int how = below(4);
        return how == 0 ? model.own[which] : how == 1 ? 1L << below(64) : one(LASTS);
    }

    private void squeeze() {
        same("squeeze()", real.squeeze(), model.squeeze());
        lookAtOut(50);
    }

    private void take() {
        same("take()", real.take(), model.take());
    }

    private void unfold() {
        same("unfold()", real.unfold(), model.unfold());
        for (int what = -1; what <= 8 && may(1); what++) {
            same("told(" + what + ")", real.told(what), model.told(what));
        }
        lookAtOut(64);
    }

    private void lookAtOut(int most) {
        out(-1);
        int n = model.out.size();
        for (int i = 0; i < Math.min(n, most) && may(1); i++) {
            out(n <= most ? i : below(n));
        }
    }

    private void out(int i) {
        if (may(1)) {
            same("out(" + i + ")", real.out(i), model.out(i));
        }
    }

    private void squeezeAndBack() {
        if (!may(150)) {
            return;
        }
        squeeze();
        take();
        unfold();
        if (below(2) == 0) {
            take();
        }
    }

    private void anyBytes() {
        if (!may(100)) {
            return;
        }
        if (below(3) != 0) {
            cut(0);
        }
        int first = below(8) == 0 ? below(256) : 96 + below(32);
        type(first << 8 | below(256), 2);
        if (below(3) == 0) {
            type(below(4) * 5 * 16 + below(4) * 5, 1);
        }
        int n = below(6);
        for (int i = 0; i < n; i++) {
            type(below(2) == 0 ? 240 + below(5) : wide(), 1 + below(8));
        }
        unfold();
    }

    private void spoiltUnfold() {
        if (!may(140)) {
            return;
        }
        squeeze();
        take();
        int i = below(8) == 0 ? below(700) - 20 : below(12);
        int mask = below(3) == 0 ? below(1 << 20) : 1 << below(8);
        same("poke(" + i + ", " + mask + ")", real.poke(i, mask), model.poke(i, mask));
        if (below(2) == 0) {
            cut(below(Math.min(model.tape.size(), 30) + 3) - 1);
        }
        unfold();
        same("poke(" + i + ", " + mask + ")", real.poke(i, mask), model.poke(i, mask));
    }

    private void slice() {
        int size = below(20) == 0 ? below(200) - 20 : below(2) == 0 ? one(SIZES) : 40 + below(81);
        int tag = below(20) == 0 ? below(200000) - 60000 : below(3) * 300;
        same("slice(" + size + ", " + tag + ")", real.slice(size, tag), model.slice(size, tag));
        for (int k = 0; k <= model.frames.size() && may(8); k++) {
            for (int i = -1; i < 5; i++) {
                frame(k, i);
            }
            frame(k, below(130));
        }
    }

    private void frame(int k, int i) {
        same("frame(" + k + ", " + i + ")", real.frame(k, i), model.frame(k, i));
    }

    private void hear(int k) {
        if (!may(1)) {
            return;
        }
        same("hear(" + k + ")", real.hear(k), model.hear(k));
        if (may(9) && below(3) == 0) {
            for (int what = 0; what < 9; what++) {
                same("count(" + what + ")", real.count(what), model.count(what));
            }
        }
        if (may(5) && below(4) == 0) {
            lookAtOut(4);
        }
    }

    /** Every FRAME there is, in an order of its own, some of them twice. */
    private void hearAll() {
        int n = model.frames.size();
        if (n == 0) {
            hear(below(3) - 1);
            return;
        }
        int start = below(n);
        int step = below(2) == 0 ? 1 : n - 1;
        for (int j = 0; j < n && may(1); j++) {
            int k = (start + j * step) % n;
            hear(k);
            if (below(6) == 0) {
                hear(k);
            }
        }
        if (may(40)) {
            lookAtOut(40);
        }
    }

    private void hearSome() {
        int n = 1 + below(4);
        for (int i = 0; i < n; i++) {
            hear(below(model.frames.size() + 2) - 1);
        }
    }

    private void spoil() {
        int k = below(model.frames.size() + 2) - 1;
        int i = below(6) == 0 ? below(130) - 4 : below(6);
        int mask = below(3) == 0 ? below(1 << 20) : 1 << below(8);
        if (may(4)) {
            same("spoil(" + k + ", " + i + ", " + mask + ")", real.spoil(k, i, mask), model.spoil(k, i, mask));
            frame(k, i);
            hear(k);
        }
    }

    /** A further FRAME typed by hand, so that parts of all places and lengths come. */
    private void put() {
        if (!may(12)) {
            return;
        }
        int kind = below(5);
        if (kind > 0) {
            cut(0);
            int z = kind == 1 ? 40 + below(30) : kind == 2 ? 590 + below(20) : 40 + 8 * below(6);
            int mark = below(8) == 0 ? 192 : 224;
            type((long) (mark + z / 256) << 24 | (long) (z % 256) << 16 | below(4) * 300, 4);
            type(below(3) == 0 ? below(256) : below(8), below(9) == 0 ? 2 : 1);
            int n = below(6);
            for (int i = 0; i < n; i++) {
                type(wide(), below(4) == 0 ? 1 + below(8) : 8);
            }
        }
        int k = below(6) == 0 ? below(50) - 4 : model.frames.size();
        same("put(" + k + ")", real.put(k), model.put(k));
        hear(k);
    }

    private void pass() {
        int n = below(6) == 0 ? below(1200) - 100 : below(3) == 0 ? 60 : below(40);
        same("pass(" + n + ")", real.pass(n), model.pass(n));
    }

    private void looks() {
        int what = below(12) - 1;
        same("count(" + what + ")", real.count(what), model.count(what));
        if (may(4)) {
            out(below(620) - 5);
            int k = below(42) - 1;
            frame(k, below(125) - 3);
            int i = below(650) - 5;
            same("poke(" + i + ", 0)", real.poke(i, 0), model.poke(i, 0));
        }
    }
}
