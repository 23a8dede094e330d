import java.io.IOException;
import java.nio.file.Files;
import java.nio.file.Path;
import java.util.List;
import java.util.regex.Matcher;
import java.util.regex.Pattern;

/** What of LANGUAGE.md can be seen in the words of the source: the class needs none of what is told here. */
final class LanguageTest {
    private static final String[] UNUSED = {
        "package", "import", "protected", "throw", "throws", "try", "catch", "finally", "synchronized", "assert",
        "instanceof", "record", "var", "while", "do", "double", "float", "String", "System", "Math", "native",
        "transient", "volatile", "strictfp", "equals", "hashCode", "toString", "Object", "null"};

    private LanguageTest() {
    }

    public static void main(String[] args) throws IOException {
        String source = Files.readString(Path.of("src/main/java/ShortFrames.java"));
        isTrue("signs 10 and 32 to 126 alone", source.chars().allMatch(c -> c == 10 || c >= 32 && c < 127));
        String code = source.replaceAll("(?s)/\\*.*?\\*/", "").replaceAll("//[^\n]*", "");
        for (String word : UNUSED) {
            isTrue("no word " + word, !Pattern.compile("\\b" + word + "\\b").matcher(code).find());
        }
        for (String sign : List.of("->", "::", "@", "\"", "%=", "static {")) {
            isTrue("no sign " + sign, !code.contains(sign));
        }
        Matcher statics = Pattern.compile("\\bstatic\\b(?! final| class|[^=;]*\\()").matcher(code);
        isTrue("static fields are final", !statics.find());
        checkMethods(source.split("\n"));
        Check.end("LanguageTest");
    }

    /** A method begins with a line that ends in ") {" and stands outside all others. */
    private static void checkMethods(String[] lines) {
        String open = null;
        int begun = 0;
        int methods = 0;
        int made = 0;
        boolean makes = false;
        for (int i = 0; i < lines.length; i++) {
            String line = lines[i];
            String indent = line.substring(0, line.length() - line.stripLeading().length());
            boolean outer = indent.length() == 4 || indent.length() == 8;
            if (open == null && outer && line.endsWith(") {")) {
                open = indent + "}";
                begun = i;
                methods++;
                makes = line.matches(" *(public )?[A-Z]\\w*\\(.*");
            } else if (line.equals(open)) {
                isTrue("short: line " + (begun + 1), i - begun <= 60);
                open = null;
            } else if (open != null && line.contains("new ") && !line.strip().startsWith("//")) {
                made++;
                isTrue("rows are made in constructors alone: line " + (i + 1), makes);
            }
        }
        isTrue("constructors make rows", made > 5);
        isTrue("methods were found", methods > 80);
    }

    private static void isTrue(String what, boolean is) {
        Check.same(what, is ? 1 : 0, 1);
    }
}
