import java.util.ArrayList;
import java.util.List;
import java.util.Map;
import java.util.TreeMap;

/**
 * The document written a second time, slowly and in another way: a form is chosen by trying which
 * one reads back as what is to be told, and a HEAP keeps its parts in a map.
 */
final class Model {
    static final long PLAIN = 0xfe80000000000000L;

    /** A FAULT and its place. */
    static final class Fault extends RuntimeException {
        private static final long serialVersionUID = 1L;
        final int number;
        final int place;

        Fault(int number, int place) {
            this.number = number;
            this.place = place;
        }
    }

    static final class Heap {
        int z;
        int tag;
        int time;
        final Map<Integer, List<Integer>> parts = new TreeMap<>();
    }

    final Long[] contexts = new Long[16];
    final long[] own = {own(false, 0), own(false, 0)};
    List<Integer> tape = new ArrayList<>();
    List<Integer> out = new ArrayList<>();
    List<List<Integer>> frames = new ArrayList<>();
    final List<Heap> heaps = new ArrayList<>();
    int[] told = new int[8];
    int clock;
    int whole;
    int dropped;
    int late;
    int anew;

    static long own(boolean isLong, long v) {
        if (!isLong) {
            return number(List.of(0, 0, 0, 255, 254, 0, (int) (v >> 8 & 255), (int) (v & 255)));
        }
        List<Integer> bytes = bytes(v, 8);
        bytes.set(0, (bytes.get(0) & 2) != 0 ? bytes.get(0) - 2 : bytes.get(0) + 2);
        return number(bytes);
    }

    static List<Integer> bytes(long v, int n) {
        List<Integer> l = new ArrayList<>();
        for (int i = n - 1; i >= 0; i--) {
            l.add((int) (v >> 8 * i & 255));
        }
        return l;
    }

    static long number(List<Integer> bytes) {
        long v = 0;
        for (int b : bytes) {
            v = v * 256 + b;
        }
        return v;
    }

    // ---- calls

    int context(int i, boolean there, long v) {
        if (i < 0 || i > 15) {
            return -1;
        }
        int was = contexts[i] != null ? 1 : 0;
        contexts[i] = there ? Long.valueOf(v) : null;
        return was;
    }

    int link(int which, boolean isLong, long v) {
        if (which < 0 || which > 1) {
            return -1;
        }
        own[which] = own(isLong, v);
        return 1;
    }

    int type(long w, int n) {
        if (n < 1 || n > 8) {
            return -1;
        }
        if (tape.size() + n > 640) {
            return -3;
        }
        tape.addAll(bytes(w, n));
        return tape.size();
    }

    int head(int t, int l, int n, int kind, int hops, long s, long s2, long g, long g2) {
        if (t < 0 || t > 255 || l < 0 || l > 1048575 || n < 0 || n > 560 || kind < 0 || kind > 255
                || hops < 0 || hops > 255) {
            return -1;
        }
        if (tape.size() + 40 > 640) {
            return -3;
        }
        tape.addAll(headBytes(t, l, n, kind, hops));
        for (long half : new long[] {s, s2, g, g2}) {
            tape.addAll(bytes(half, 8));
        }
        return tape.size();
    }

    private static List<Integer> headBytes(int t, int l, int n, int kind, int hops) {
        List<Integer> b = new ArrayList<>(List.of(0x60 + t / 16, t % 16 * 16 + l / 65536));
        b.addAll(bytes(l % 65536, 2));
        b.addAll(bytes(n, 2));
        b.add(kind);
        b.add(hops);
        return b;
    }

    int cut(int n) {
        if (n < 0 || n > tape.size()) {
            return -1;
        }
        int went = tape.size() - n;
        tape = new ArrayList<>(tape.subList(0, n));
        return went;
    }

    int poke(int i, int mask) {
        return change(tape, i, mask);
    }

    private static int change(List<Integer> row, int i, int mask) {
        if (i < 0 || i >= row.size()) {
            return -1;
        }
        row.set(i, row.get(i) ^ mask & 255);
        return row.get(i);
    }

    int take() {
        tape = new ArrayList<>(out);
        return tape.size();
    }

    int out(int i) {
        return look(out, i);
    }

    private static int look(List<Integer> row, int i) {
        if (i < -1 || i >= row.size()) {
            return -1;
        }
        return i == -1 ? row.size() : row.get(i);
    }

    private boolean isPacket() {
        return tape.size() >= 40 && tape.size() <= 600 && tape.get(0) / 16 == 6
                && tape.get(4) * 256 + tape.get(5) == tape.size() - 40;
    }

    private static boolean hasPorts(List<Integer> p) {
        return p.get(6) == 17 && p.size() >= 48 && p.get(44) * 256 + p.get(45) == p.size() - 40;
    }

    int squeeze() {
        if (!isPacket()) {
            return -2;
        }
        out = squeezed(tape);
        return out.size();
    }

    int unfold() {
        told = new int[8];
        try {
            out = unfolded(tape, -1, told);
            return out.size();
        } catch (Fault f) {
            told = new int[] {f.number, f.place, 0, 0, 0, 0, 0, 0};
            return -10 - f.number;
        }
    }

    int told(int what) {
        return what < 0 || what > 7 ? -1 : told[what];
    }

    int slice(int size, int tag) {
        if (size < 40 || size > 120 || tag < 0 || tag > 65535) {
            return -1;
        }
        if (!isPacket()) {
            return -2;
        }
        List<Integer> all = squeezed(tape);
        if (all.size() <= size) {
            frames = new ArrayList<>();
            frames.add(all);
            return 1;
        }
        int z = tape.size();
        int stood = hasPorts(tape) ? 48 : 40;
        int squeezedHead = all.size() - (z - stood);
        if (squeezedHead + 4 > size) {
            return -3;
        }
        while (squeezedHead + 4 + 8 <= size) {
            squeezedHead += 8;
            stood += 8;
        }
        List<List<Integer>> cut = new ArrayList<>();
        List<Integer> first = ahead(192, z, tag);
        first.addAll(all.subList(0, squeezedHead));
        cut.add(first);
        while (stood < z) {
            List<Integer> further = ahead(224, z, tag);
            further.add(stood / 8);
            int end = stood;
            if (5 + z - stood <= size) {
                end = z;
            } else {
                while (end - stood + 8 + 5 <= size) {
                    end += 8;
                }
            }
            further.addAll(tape.subList(stood, end));
            stood = end;
            cut.add(further);
        }
        frames = cut.size() > 40 ? new ArrayList<>() : cut;
        return cut.size() > 40 ? -3 : cut.size();
    }

    private static List<Integer> ahead(int mark, int z, int tag) {
        return new ArrayList<>(List.of(mark + z / 256, z % 256, tag / 256, tag % 256));
    }

    int frame(int k, int i) {
        return k < 0 || k >= frames.size() ? -1 : look(frames.get(k), i);
    }

    int spoil(int k, int i, int mask) {
        return k < 0 || k >= frames.size() ? -1 : change(frames.get(k), i, mask);
    }

    int put(int k) {
        if (k < 0 || k > frames.size()) {
            return -1;
        }
        if (tape.isEmpty() || tape.size() > 120) {
            return -2;
        }
        if (k == 40) {
            return -3;
        }
        if (k == frames.size()) {
            frames.add(new ArrayList<>());
        }
        frames.set(k, new ArrayList<>(tape));
        return frames.size();
    }

    int hear(int k) {
        if (k < 0 || k >= frames.size()) {
            return -1;
        }
        int answer;
        try {
            answer = heard(frames.get(k));
        } catch (Fault f) {
            answer = 0;
        }
        dropped += answer == 0 ? 1 : 0;
        whole += answer == 2 ? 1 : 0;
        return answer;
    }

    int pass(int n) {
        if (n < 0 || n > 1000) {
            return -1;
        }
        clock += n;
        return clock;
    }

    int count(int what) {
        int parts = 0;
        int bytes = 0;
        for (Heap h : heaps) {
            for (List<Integer> part : h.parts.values()) {
                parts++;
                bytes += part.size();
            }
        }
        int[] all = {heaps.size(), parts, bytes, frames.size(), whole, dropped, late, anew, clock};
        return what < 0 || what > 8 ? -1 : all[what];
    }

    // ---- the receiver

    private int heard(List<Integer> f) {
        int first = f.get(0);
        if (first / 32 == 3) {
            out = unfolded(f, -1, new int[8]);
            return 2;
        }
        if (first / 8 != 24 && first / 8 != 28) {
            return 0;
        }
        boolean isFirst = first / 8 == 24;
        if (f.size() < (isFirst ? 5 : 6)) {
            return 0;
        }
        int z = first % 8 * 256 + f.get(1);
        int tag = f.get(2) * 256 + f.get(3);
        if (z < 40 || z > 600) {
            return 0;
        }
        int place = isFirst ? 0 : 8 * f.get(4);
        List<Integer> part = isFirst ? unfolded(f.subList(4, f.size()), z - 40, new int[8])
                : new ArrayList<>(f.subList(5, f.size()));
        int end = place + part.size();
        if (end > z || end % 8 != 0 && end != z) {
            return 0;
        }
        return kept(z, tag, place, part);
    }

    private int kept(int z, int tag, int place, List<Integer> part) {
        int before = heaps.size();
        heaps.removeIf(h -> clock - h.time >= 60);
        late += before - heaps.size();
        Heap heap = null;
        for (Heap h : heaps) {
            heap = h.z == z && h.tag == tag ? h : heap;
        }
        if (heap == null) {
            if (heaps.size() == 3) {
                return 0;
            }
            heap = new Heap();
            heap.z = z;
            heap.tag = tag;
            heap.time = clock;
            heaps.add(heap);
        }
        if (heap.parts.containsKey(place) && heap.parts.get(place).size() == part.size()) {
            return 0;
        }
        if (meets(heap, place, part.size())) {
            heap.parts.clear();
            heap.time = clock;
            anew++;
        }
        heap.parts.put(place, part);
        List<Integer> all = new ArrayList<>();
        for (Map.Entry<Integer, List<Integer>> e : heap.parts.entrySet()) {
            if (e.getKey() != all.size()) {
                return 1;
            }
            all.addAll(e.getValue());
        }
        if (all.size() != z) {
            return 1;
        }
        out = all;
        heaps.remove(heap);
        return 2;
    }

    private static boolean meets(Heap heap, int place, int length) {
        boolean[] taken = new boolean[800];
        for (Map.Entry<Integer, List<Integer>> e : heap.parts.entrySet()) {
            for (int i = 0; i < e.getValue().size(); i++) {
                taken[e.getKey() + i] = true;
            }
        }
        boolean meets = false;
        for (int i = 0; i < length; i++) {
            meets |= taken[place + i];
        }
        return meets;
    }

    // ---- squeezing

    private List<Integer> squeezed(List<Integer> p) {
        int t = p.get(0) % 16 * 16 + p.get(1) / 16;
        int l = p.get(1) % 16 * 65536 + p.get(2) * 256 + p.get(3);
        boolean ports = hasPorts(p);
        int[] chosen = {0, 0, 0, 0};
        List<Integer> traffic = trafficOf(t, l, chosen);
        List<Integer> hops = List.of(1, 64, 255).contains(p.get(7)) ? List.of() : List.of(p.get(7));
        int hl = hops.isEmpty() ? List.of(1, 64, 255).indexOf(p.get(7)) + 1 : 0;
        List<Integer> source = addressOf(p.subList(8, 24), false, chosen, 1);
        List<Integer> goal = addressOf(p.subList(24, 40), true, chosen, 2);
        List<Integer> all = new ArrayList<>();
        all.add(3 * 32 + chosen[0] * 8 + (ports ? 4 : 0) + hl);
        all.add((chosen[3] != 0 ? 128 : 0) + chosen[1] * 16 + chosen[2]);
        if (chosen[3] != 0) {
            all.add(chosen[3]);
        }
        all.addAll(traffic);
        if (!ports) {
            all.add(p.get(6));
        }
        all.addAll(hops);
        all.addAll(source);
        all.addAll(goal);
        if (ports) {
            all.addAll(portsOf(p.subList(40, 44)));
            all.addAll(p.subList(46, 48));
        }
        all.addAll(p.subList(ports ? 48 : 40, p.size()));
        return all;
    }

    private static List<Integer> trafficOf(int t, int l, int[] chosen) {
        int e = t % 4;
        int u = t / 4;
        if (t == 0 && l == 0) {
            chosen[0] = 3;
            return List.of();
        }
        if (l == 0) {
            chosen[0] = 2;
            return List.of(64 * e + u);
        }
        if (u == 0) {
            chosen[0] = 1;
            return List.of(64 * e + l / 65536, l / 256 % 256, l % 256);
        }
        return List.of(64 * e + u, l / 65536, l / 256 % 256, l % 256);
    }

    /** Tries the modes in the order in which they are to be taken. */
    private List<Integer> addressOf(List<Integer> address, boolean isGoal, int[] chosen, int where) {
        int[] plainFirst = isGoal ? new int[] {3, 2, 1, 11, 10, 9} : new int[] {3, 2, 1, 4};
        for (int mode : plainFirst) {
            List<Integer> told = told(address, mode, isGoal);
            if (address.equals(read(told, mode, isGoal, 0))) {
                chosen[where] = mode;
                return told;
            }
        }
        if (isGoal && address.get(0) == 255) {
            chosen[where] = 8;
            return address;
        }
        for (int i = 0; i < 16; i++) {
            for (int mode = 7; mode >= 5 && contexts[i] != null; mode--) {
                List<Integer> told = told(address, mode, isGoal);
                if (address.equals(read(told, mode, isGoal, i))) {
                    chosen[where] = mode;
                    chosen[3] += isGoal ? i : 16 * i;
                    return told;
                }
            }
        }
        chosen[where] = 0;
        return address;
    }

    private static List<Integer> told(List<Integer> a, int mode, boolean isGoal) {
        List<Integer> told = new ArrayList<>();
        if (mode == 10 || mode == 9) {
            told.add(a.get(1));
        }
        int n = size(mode) - told.size();
        told.addAll(a.subList(16 - n, 16));
        return told;
    }

    private static int size(int mode) {
        switch (mode) {
            case 0: case 8: return 16;
            case 1: case 5: return 8;
            case 2: case 6: return 2;
            case 9: return 6;
            case 10: return 4;
            case 11: return 1;
            default: return 0;
        }
    }

    private List<Integer> read(List<Integer> told, int mode, boolean isGoal, int context) {
        if (mode == 0 || mode == 8) {
            return new ArrayList<>(told);
        }
        List<Integer> a = new ArrayList<>();
        if (mode == 4) {
            return new ArrayList<>(java.util.Collections.nCopies(16, 0));
        }
        if (mode > 8) {
            List<Integer> behind = mode == 11 ? told : told.subList(1, told.size());
            a.add(255);
            a.add(mode == 11 ? 2 : told.get(0));
            while (a.size() < 16 - behind.size()) {
                a.add(0);
            }
            a.addAll(behind);
            return a;
        }
        a.addAll(bytes(mode < 4 ? PLAIN : contexts[context], 8));
        if (mode % 4 == 3) {
            a.addAll(bytes(own[isGoal ? 1 : 0], 8));
        } else if (mode % 4 == 2) {
            a.addAll(List.of(0, 0, 0, 255, 254, 0));
        }
        a.addAll(told);
        return a;
    }

    private static List<Integer> portsOf(List<Integer> four) {
        for (int p : new int[] {3, 1, 2, 0}) {
            List<Integer> told = new ArrayList<>();
            told.add(240 + p);
            if (p == 3) {
                told.add(four.get(1) % 16 * 16 + four.get(3) % 16);
            } else {
                told.addAll(four.subList(p == 2 ? 1 : 0, 2));
                told.addAll(four.subList(p == 1 ? 3 : 2, 4));
            }
            if (four.equals(readPorts(p, told.subList(1, told.size())))) {
                return told;
            }
        }
        throw new IllegalStateException("P 0 tells all");
    }

    private static List<Integer> readPorts(int p, List<Integer> told) {
        switch (p) {
            case 3: return List.of(240, 176 + told.get(0) / 16, 240, 176 + told.get(0) % 16);
            case 2: return List.of(240, told.get(0), told.get(1), told.get(2));
            case 1: return List.of(told.get(0), told.get(1), 240, told.get(2));
            default: return new ArrayList<>(told);
        }
    }

    // ---- unfolding

    /** Takes the next n bytes, or tells FAULT 1. */
    private static List<Integer> next(List<Integer> in, int[] at, int n) {
        if (at[0] + n > in.size()) {
            throw new Fault(1, in.size());
        }
        at[0] += n;
        return in.subList(at[0] - n, at[0]);
    }

    private List<Integer> unfolded(List<Integer> in, int n, int[] told) {
        int[] at = {0};
        int first = next(in, at, 1).get(0);
        if (first < 96 || first > 127) {
            throw new Fault(2, 0);
        }
        int second = next(in, at, 1).get(0);
        int tf = first / 8 % 4;
        boolean ports = first / 4 % 2 == 1;
        int source = second / 16 % 8;
        int goal = second % 16;
        if (goal == 4 || goal >= 12) {
            throw new Fault(3, 1);
        }
        int contextByte = second / 128 == 1 ? next(in, at, 1).get(0) : 0;
        if (source >= 5 && contexts[contextByte / 16] == null
                || goal >= 5 && goal <= 7 && contexts[contextByte % 16] == null) {
            throw new Fault(4, at[0] - 1);
        }
        List<Integer> b = next(in, at, tf == 0 ? 4 : tf == 1 ? 3 : tf == 2 ? 1 : 0);
        int t = b.isEmpty() ? 0 : b.get(0) / 64 + (tf == 1 ? 0 : b.get(0) % 64 * 4);
        int l = tf == 0 ? (int) number(b.subList(1, 4))
                : tf == 1 ? b.get(0) % 16 * 65536 + (int) number(b.subList(1, 3)) : 0;
        if (l > 0xfffff || tf == 1 && b.get(0) / 16 % 4 != 0) {
            throw new Fault(5, at[0] - b.size());
        }
        int kind = ports ? 17 : next(in, at, 1).get(0);
        int hops = first % 4 == 0 ? next(in, at, 1).get(0) : List.of(1, 64, 255).get(first % 4 - 1);
        List<Integer> from = read(next(in, at, size(source)), source, false, contextByte / 16);
        List<Integer> to = read(next(in, at, size(goal)), goal, true, contextByte % 16);
        List<Integer> behind = new ArrayList<>();
        int p = -2;
        if (ports) {
            p = next(in, at, 1).get(0) - 240;
            if (p < 0 || p > 3) {
                throw new Fault(6, at[0] - 1);
            }
            behind.addAll(readPorts(p, next(in, at, List.of(4, 3, 3, 1).get(p))));
            behind.addAll(List.of(0, 0));
            behind.addAll(next(in, at, 2));
        }
        behind.addAll(in.subList(at[0], in.size()));
        int length = n == -1 ? behind.size() : n;
        if (length > 560) {
            throw new Fault(7, in.size());
        }
        if (ports) {
            behind.set(4, length / 256);
            behind.set(5, length % 256);
        }
        List<Integer> packet = headBytes(t, l, length, kind, hops);
        packet.addAll(from);
        packet.addAll(to);
        packet.addAll(behind);
        int[] all = {0, 0, tf, second / 128, source, goal, p, at[0]};
        System.arraycopy(all, 0, told, 0, 8);
        return packet;
    }
}
