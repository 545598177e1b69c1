import java.io.IOException;
import java.nio.charset.StandardCharsets;
import java.nio.file.Files;
import java.nio.file.Path;
import java.util.regex.Matcher;
import java.util.regex.Pattern;

/** What can be seen of LANGUAGE.md in the source itself, without comments and texts. */
public final class LanguageTest {
    private static final String[] RULED_OUT = {"->", "::", "\\bcatch\\b", "\\bfinally\\b", "\\bsynchronized\\b",
        "\\bassert\\b", "\\bpackage\\b", "\\bprotected\\b", "Exact\\(", "\\bdouble\\b", "\\bfloat\\b", "\\bnative\\b",
        "\\bThread\\b", "\\bRandom\\b", "\\bvar\\b", "\\bwhile\\b", "static\\s*\\{", "\\bString\\b", "\\[\\]\\[\\]\\[\\]"};

    private LanguageTest() {
    }

    private static String plainSource() throws IOException {
        String source = Files.readString(Path.of("src/main/java/MasonMarks.java"), StandardCharsets.ISO_8859_1);
        for (int i = 0; i < source.length(); i++) {
            char sign = source.charAt(i);
            if (sign > 126 || sign < 32 && sign != '\n') {
                Due.holds("sign " + (int) sign + " at " + i, false);
            }
        }
        return source.replaceAll("(?s)/\\*.*?\\*/", "").replaceAll("//[^\n]*", "");
    }

    private static void library(String source) {
        Matcher imports = Pattern.compile("import ([^;]*);").matcher(source);
        while (imports.find()) {
            Due.holds("import " + imports.group(1), imports.group(1).equals("java.util.Arrays"));
        }
        Matcher calls = Pattern.compile("\\b(System|Arrays|Integer|Long|Math)\\.(\\w+)").matcher(source);
        String allowed = " System.arraycopy Arrays.fill Integer.bitCount Integer.numberOfTrailingZeros Math.max Math.min ";
        while (calls.find()) {
            Due.holds(calls.group(), allowed.contains(" " + calls.group() + " "));
        }
    }

    /** Methods of some sixty lines, twelve classes. */
    private static void sizes(String source) {
        String[] lines = source.split("\n");
        Pattern head = Pattern.compile("^( {4}| {8})\\S.*\\) \\{$");
        for (int i = 0; i < lines.length; i++) {
            Matcher m = head.matcher(lines[i]);
            if (m.matches()) {
                int end = i;
                while (end < lines.length && !lines[end].equals(m.group(1) + "}")) {
                    end++;
                }
                Due.holds("too long: " + lines[i], end - i < 60);
            }
        }
        Due.holds("classes", source.split("\\bclass\\b").length - 1 <= 12);
    }

    public static void main(String[] args) throws IOException {
        String source = plainSource();
        for (String word : RULED_OUT) {
            Due.holds(word + " is ruled out or not needed", !Pattern.compile(word).matcher(source).find());
        }
        library(source);
        sizes(source);
        Due.end();
    }
}
