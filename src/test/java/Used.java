/** An object of ShortFrames whose calls are counted: what it answers after 512 of them is free. */
final class Used {
    private final ShortFrames x = new ShortFrames();
    private int calls = 0;

    private ShortFrames x() {
        calls++;
        if (calls == 513) {
            Check.same("the number of calls of one object", calls, 512);
        }
        return x;
    }

    int context(int i, boolean there, long bytes) {
        return x().context(i, there, bytes);
    }

    int link(int which, boolean isLong, long v) {
        return x().link(which, isLong, v);
    }

    int type(long w, int n) {
        return x().type(w, n);
    }

    int head(int t, int l, int n, int kind, int hops, long source, long source2, long goal, long goal2) {
        return x().head(t, l, n, kind, hops, source, source2, goal, goal2);
    }

    int cut(int n) {
        return x().cut(n);
    }

    int poke(int i, int mask) {
        return x().poke(i, mask);
    }

    int take() {
        return x().take();
    }

    int out(int i) {
        return x().out(i);
    }

    int squeeze() {
        return x().squeeze();
    }

    int unfold() {
        return x().unfold();
    }

    int told(int what) {
        return x().told(what);
    }

    int slice(int size, int tag) {
        return x().slice(size, tag);
    }

    int frame(int k, int i) {
        return x().frame(k, i);
    }

    int spoil(int k, int i, int mask) {
        return x().spoil(k, i, mask);
    }

    int put(int k) {
        return x().put(k);
    }

    int hear(int k) {
        return x().hear(k);
    }

    int pass(int n) {
        return x().pass(n);
    }

    int count(int what) {
        return x().count(what);
    }
}
