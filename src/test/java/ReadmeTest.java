import java.io.IOException;
import java.lang.reflect.Method;
import java.lang.reflect.Modifier;
import java.nio.file.Files;
import java.nio.file.Path;
import java.util.ArrayList;
import java.util.List;

/** What README.md shows is so: its example stands here line by line and is run, its table has every call. */
final class ReadmeTest {
    private static final Path README = Path.of("README.md");
    private static final Path HERE = Path.of("src/test/java/ReadmeTest.java");

    private ReadmeTest() {
    }

    public static void main(String[] args) throws IOException {
        List<String> shown = between(README, "```java", "```");
        Check.same("the example has lines", shown.size() > 5 ? 1 : 0, 1);
        Check.same("the example is the one below", shown.equals(between(HERE, "// example", "// end")) ? 1 : 0, 1);
        runExample();
        checkTable(Files.readString(README));
        Check.end("ReadmeTest");
    }

    private static void runExample() {
        // example
        ShortFrames x = new ShortFrames();
        x.context(3, true, 0x20010db800000000L);        // both ends know these eight bytes as CONTEXT 3
        x.link(0, false, 7);                            // the sender's LINK is SHORT 7
        x.head(0, 0, 2, 59, 64,                         // THE TAPE: a PACKET's 40 bytes ..
               0x20010db800000000L, 0x000000fffe000007L, 0xff02L << 48, 1);
        x.type(0x0102, 2);                              // .. and two more
        int n = x.squeeze();                            // 7 bytes come to THE OUT: 7a fb 30 3b 01, 01 02
        x.take();                                       // THE OUT comes in place of THE TAPE
        int m = x.unfold();                             // 42: the PACKET again; told(what) says how it was told
        x.take();
        int frames = x.slice(60, 258);                  // cut to FRAMES of up to 60 bytes
        int answer = x.hear(0);                         // 2: that PACKET is whole again in THE OUT
        // end
        Check.same("squeeze()", n, 7);
        Check.same("unfold()", m, 42);
        Check.same("slice(60, 258)", frames, 1);
        Check.same("hear(0)", answer, 2);
        Check.same("out(-1)", x.out(-1), 42);
        int[] squeezed = {0x7a, 0xfb, 0x30, 0x3b, 1, 1, 2};
        for (int i = 0; i < squeezed.length; i++) {
            Check.same("frame(0, " + i + ")", x.frame(0, i), squeezed[i]);
        }
    }

    private static void checkTable(String readme) {
        for (Method m : ShortFrames.class.getDeclaredMethods()) {
            if (Modifier.isPublic(m.getModifiers())) {
                Check.same("a row for " + m.getName(), readme.contains("\n| `" + m.getName() + "(") ? 1 : 0, 1);
            }
        }
    }

    /** The lines behind the first one that is just this mark, ahead of the next that is just that one. */
    private static List<String> between(Path file, String first, String last) throws IOException {
        List<String> lines = new ArrayList<>();
        boolean inside = false;
        for (String line : Files.readAllLines(file)) {
            String words = line.strip();
            if (inside && words.equals(last)) {
                return lines;
            }
            if (inside) {
                lines.add(words);
            }
            inside |= words.equals(first);
        }
        return lines;
    }
}
