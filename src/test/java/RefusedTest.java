import java.util.ArrayList;
import java.util.List;
import java.util.function.Consumer;
import java.util.function.Function;
import java.util.function.IntUnaryOperator;
import java.util.function.ToIntFunction;

/**
 * "What answers so changes nothing, but as told": behind every refused call all that can be looked at
 * is as it is without that call. An object is used for 512 calls alone, so each look is at a new one.
 */
final class RefusedTest extends Hand {
    private static final int CHUNK = 160;

    private static int looks = 0;

    private RefusedTest() {
    }

    public static void main(String[] args) {
        numbers();
        about = "a TAPE that is no PACKET";
        for (Consumer<Used> scene : List.<Consumer<Used>>of(RefusedTest::shortOne, RefusedTest::notSix, RefusedTest::notN)) {
            refused("squeeze()", -2, scene, x -> x.squeeze());
            refused("slice(40, 1)", -2, scene, x -> x.slice(40, 1));
        }
        about = "a TAPE of 601";
        refused("squeeze()", -2, RefusedTest::above, x -> x.squeeze());
        refused("slice(120, 1)", -2, RefusedTest::above, x -> x.slice(120, 1));
        refused("head(..)", -3, RefusedTest::above, x -> x.head(1, 2, 3, 4, 5, 6, 7, 8, 9));
        refused("unfold()", -17, RefusedTest::above, x -> x.unfold());
        about = "a TAPE of 640";
        refused("type(1, 1)", -3, RefusedTest::full, x -> x.type(1, 1));
        refused("type(1, 8)", -3, RefusedTest::full, x -> x.type(1, 8));
        refused("head(..)", -3, RefusedTest::full, x -> x.head(1, 2, 3, 4, 5, 6, 7, 8, 9));
        about = "a TAPE for put()";
        refused("put(0)", -2, RefusedTest::empty, x -> x.put(0));
        refused("put(2)", -2, RefusedTest::empty, x -> x.put(2));
        refused("put(0)", -2, RefusedTest::longer, x -> x.put(0));
        refused("put(2)", -2, RefusedTest::longer, x -> x.put(2));
        refused("put(40)", -3, RefusedTest::forty, x -> x.put(40));
        refused("put(41)", -1, RefusedTest::forty, x -> x.put(41));
        about = "a TAPE that FRAME 0 does not take";
        refused("slice(40, 1)", -3, RefusedTest::wide, x -> x.slice(40, 1));
        faults();
        about = "the looks";
        due("many were made", looks > 1000 ? 1 : 0, 1);
        Check.end("RefusedTest");
    }

    private static void numbers() {
        about = "a number is not as told";
        for (int wrong : new int[] {-1, 1 << 30, LEAST, MOST}) {
            bad("context(" + wrong + ", true, 1)", x -> x.context(wrong, true, 1));
            bad("context(" + wrong + ", false, 1)", x -> x.context(wrong, false, 1));
            bad("link(" + wrong + ", true, 1)", x -> x.link(wrong, true, 1));
            bad("link(" + wrong + ", false, 1)", x -> x.link(wrong, false, 1));
            bad("type(1, " + wrong + ")", x -> x.type(1, wrong));
            for (int i = 0; i < 5; i++) {
                int[] five = new int[5];
                five[i] = wrong;
                bad("head(..), number " + i, x -> x.head(five[0], five[1], five[2], five[3], five[4], 1, 2, 3, 4));
            }
            bad("cut(" + wrong + ")", x -> x.cut(wrong));
            bad("poke(" + wrong + ", 1)", x -> x.poke(wrong, 1));
            bad("told(" + wrong + ")", x -> x.told(wrong));
            bad("slice(" + wrong + ", 1)", x -> x.slice(wrong, 1));
            bad("slice(40, " + wrong + ")", x -> x.slice(40, wrong));
            bad("frame(" + wrong + ", 0)", x -> x.frame(wrong, 0));
            bad("spoil(" + wrong + ", 0, 1)", x -> x.spoil(wrong, 0, 1));
            bad("spoil(0, " + wrong + ", 1)", x -> x.spoil(0, wrong, 1));
            bad("put(" + wrong + ")", x -> x.put(wrong));
            bad("hear(" + wrong + ")", x -> x.hear(wrong));
            bad("pass(" + wrong + ")", x -> x.pass(wrong));
            bad("count(" + wrong + ")", x -> x.count(wrong));
        }
        nearest();
    }

    /** The nearest numbers that are not as told. */
    private static void nearest() {
        bad("context(16, true, 1)", x -> x.context(16, true, 1));
        bad("context(16, false, 1)", x -> x.context(16, false, 1));
        bad("link(2, true, 1)", x -> x.link(2, true, 1));
        bad("type(1, 0)", x -> x.type(1, 0));
        bad("type(1, 9)", x -> x.type(1, 9));
        int[] most = {255, 1048575, 560, 255, 255};
        for (int i = 0; i < 5; i++) {
            int[] five = new int[5];
            five[i] = most[i] + 1;
            bad("head(..), number " + i, x -> x.head(five[0], five[1], five[2], five[3], five[4], 1, 2, 3, 4));
        }
        bad("cut(44)", x -> x.cut(44));
        bad("poke(43, 1)", x -> x.poke(43, 1));
        bad("out(-2)", x -> x.out(-2));
        bad("out(41)", x -> x.out(41));
        bad("told(8)", x -> x.told(8));
        bad("slice(39, 1)", x -> x.slice(39, 1));
        bad("slice(121, 1)", x -> x.slice(121, 1));
        bad("slice(40, 65536)", x -> x.slice(40, 65536));
        bad("frame(2, -1)", x -> x.frame(2, -1));
        bad("frame(0, -2)", x -> x.frame(0, -2));
        bad("frame(1, 14)", x -> x.frame(1, 14));
        bad("spoil(2, 0, 1)", x -> x.spoil(2, 0, 1));
        bad("spoil(1, 14, 1)", x -> x.spoil(1, 14, 1));
        bad("put(3)", x -> x.put(3));
        bad("hear(2)", x -> x.hear(2));
        bad("pass(1001)", x -> x.pass(1001));
        bad("count(9)", x -> x.count(9));
    }

    /** FAULTS change what is told() and nothing else. */
    private static void faults() {
        about = "a FAULT";
        int[][] all = {{}, {0x7a}, {0x80}, {0x7a, 0x34}, {0x7a, 0x73}, {0x6a, 0x33, 32, 0, 0}, {0x7e, 0x33, 0}};
        int[] fault = {1, 1, 2, 3, 4, 5, 6};
        for (int k = 0; k < all.length; k++) {
            int[] b = all[k];
            refused("unfold()", -10 - fault[k], x -> {
                rich(x);
                type(x, b);
            }, x -> x.unfold());
        }
    }

    // ---- scenes

    /** Something of everything: CONTEXTS, LINKS, THE TAPE of 43, THE OUT of 41, two FRAMES, two HEAPS. */
    private static void rich(Used x) {
        x.context(3, true, NET);
        x.context(15, true, -1);
        x.link(0, true, 0x0102030405060708L);
        x.link(1, false, 9);
        x.pass(100);
        hearPart(x, 48, 1, 0, 8, 1);
        x.pass(7);
        hearPart(x, 48, 2, 2, 16, 2);
        hearPart(x, 48, 2, 2, 16, 2);
        packet(x, 41, PLAIN, 0x0302030405060708L, PLAIN, OWN_OF_SHORT_0 + 9);
        x.slice(40, 0x0203);
        type(x, 0x76, 0xf3, 0x30, 0x41, 243, 0x12, 10, 11);
        x.unfold();
        type(x, 0x7a, 0xf3, 0x30, 59, 77);
        x.unfold();
        packet(x, 3, NET, 1, NET, 2);
    }

    private static void shortOne(Used x) {
        rich(x);
        x.cut(39);
    }

    private static void notSix(Used x) {
        rich(x);
        x.poke(0, 0x10);
    }

    private static void notN(Used x) {
        rich(x);
        x.poke(5, 1);
    }

    /** A head of n 561, and that many bytes; as something SQUEEZED it has 561 bytes left, too. */
    private static void above(Used x) {
        rich(x);
        packet(x, 560, NET, 1, NET, 2);
        x.type(0, 1);
        x.poke(5, 1);
    }

    private static void full(Used x) {
        rich(x);
        type(x, rising(640));
    }

    private static void empty(Used x) {
        rich(x);
        x.cut(0);
    }

    private static void longer(Used x) {
        rich(x);
        type(x, rising(121));
    }

    private static void forty(Used x) {
        rich(x);
        type(x, 5, 6);
        for (int k = 2; k < 40; k++) {
            x.put(k);
        }
    }

    private static void wide(Used x) {
        rich(x);
        packet(x, 8, NET + 1, 1, NET + 1, 2);
        x.poke(0, 1);
        x.poke(7, 1);
    }

    // ---- looks

    private static void bad(String call, ToIntFunction<Used> made) {
        refused(call, -1, RefusedTest::rich, made);
    }

    private static void refused(String call, int answer, Consumer<Used> scene, ToIntFunction<Used> made) {
        Used probe = new Used();
        scene.accept(probe);
        for (Function<Used, String> look : looks(probe.cut(0), answer < -10)) {
            Used with = new Used();
            scene.accept(with);
            due(call, made.applyAsInt(with), answer);
            Used without = new Used();
            scene.accept(without);
            String got = look.apply(with);
            String before = look.apply(without);
            looks++;
            if (!got.equals(before)) {
                System.out.println(about + ": " + call + " changed " + before + " to " + got);
            }
            due(call + " changes nothing", got.equals(before) ? 1 : 0, 1);
        }
    }

    private static List<Function<Used, String>> looks(int tape, boolean fault) {
        List<Function<Used, String>> all = new ArrayList<>();
        for (int from = 0; from <= tape; from += CHUNK) {
            int first = from;
            all.add(x -> joined("THE TAPE", x, first, first + CHUNK, i -> x.poke(i, 0)));
        }
        all.add(x -> joined("THE OUT", x, -1, 50, x::out));
        all.add(x -> joined("count", x, 0, 9, x::count));
        if (!fault) {
            all.add(x -> joined("told", x, 0, 8, x::told));
        }
        all.add(x -> joined("FRAME 0", x, -1, 50, i -> x.frame(0, i)));
        all.add(x -> joined("FRAME 1", x, -1, 50, i -> x.frame(1, i)));
        all.add(x -> joined("the FRAMES", x, 0, 41, k -> x.frame(k, -1)));
        all.add(x -> joined("CONTEXTS", x, 0, 16, i -> x.context(i, false, 0)));
        all.add(x -> unfolded(x, 0x7a, 0x33, 59));
        all.add(x -> unfolded(x, 0x7a, 0xf7, 0x3f, 59));
        all.add(RefusedTest::heaps);
        all.add(RefusedTest::times);
        return all;
    }

    private static String joined(String what, Used x, int first, int end, IntUnaryOperator of) {
        StringBuilder b = new StringBuilder(what);
        for (int i = first; i < end; i++) {
            b.append(' ').append(of.applyAsInt(i));
        }
        return b.toString();
    }

    /** LINKS and CONTEXTS are seen in what these bytes are UNFOLDED to. */
    private static String unfolded(Used x, int... bytes) {
        type(x, bytes);
        x.unfold();
        return joined("what both ends know", x, -1, 40, x::out);
    }

    /** The parts of both HEAPS, seen when all that lacks comes. */
    private static String heaps(Used x) {
        hearPart(x, 48, 1, 1, 40, 9);
        String one = joined("HEAP 1", x, -1, 48, x::out);
        hearPart(x, 48, 2, 0, 16, 8);
        hearPart(x, 48, 2, 4, 16, 8);
        return one + joined(", HEAP 2", x, -1, 48, x::out);
    }

    /** When each HEAP goes: the first one begun 7 ahead of the other one. */
    private static String times(Used x) {
        x.pass(52);
        StringBuilder b = new StringBuilder("times");
        for (int i = 0; i < 10; i++) {
            hearPart(x, 48, 9, 0, 8, i);
            b.append(' ').append(x.pass(1)).append(' ').append(x.count(6));
        }
        return b.toString();
    }
}
