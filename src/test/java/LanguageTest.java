import java.io.IOException;
import java.nio.file.Files;
import java.nio.file.Path;
import java.util.List;
import java.util.regex.Matcher;
import java.util.regex.Pattern;

/** Rules of LANGUAGE.md that can be seen from the text of the class. */
public final class LanguageTest {
    private static final String[] OUT = {
        "\\bthrow\\b", "\\bthrows\\b", "\\btry\\b", "\\bcatch\\b", "\\bsynchronized\\b", "\\bassert\\b", "->", "::",
        "Exact\\b", "\\bpackage\\b", "\\bThread\\b", "\\bRandom\\b", "currentTime", "nanoTime", "Math\\.random",
        "\\bhashCode\\b", "\\btoString\\b", "\\bprotected\\b", "\\bvar\\b", "\\bnative\\b", "\\bvolatile\\b", "static \\{",
    };

    /** All calls live in one room: rows are made by constructors, and no call makes one. */
    private static final Pattern MAKES = Pattern.compile("\\bnew\\b|copyOf|\\bclone\\b");
    private static final Pattern MAKERS = Pattern.compile("Strip\\[\\] strips\\(|^ +Strip\\(");

    public static void main(String[] args) throws IOException {
        String source = Files.readString(Path.of("src/main/java/EveningFalls.java"));
        String code = source.replaceAll("(?s)/\\*.*?\\*/", "").replaceAll("//[^\n]*", "");
        for (String word : OUT) {
            Check.holds("without " + word, !Pattern.compile(word).matcher(code).find());
        }
        Matcher imports = Pattern.compile("import ([^;]+);").matcher(code);
        while (imports.find()) {
            Check.holds("import " + imports.group(1),
                    List.of("java.util.Arrays", "java.util.ArrayList", "java.util.List").contains(imports.group(1)));
        }
        for (int i = 0; i < source.length(); i++) {
            if (source.charAt(i) > 126) Check.holds("sign " + i + " is plain", false);
        }
        lookAtMethods(code);
        Check.end();
    }

    /** A method starts at a line that ends in ") {" and is indented as a member. */
    private static void lookAtMethods(String code) {
        String[] lines = code.split("\n");
        int start = -1;
        String end = "";
        for (int i = 0; i < lines.length; i++) {
            Matcher head = Pattern.compile("^( {4}| {8})(public|private|static|int|long|void|boolean|[A-Z]).*\\) \\{$")
                    .matcher(lines[i]);
            if (start < 0 && head.find()) {
                start = i;
                end = head.group(1) + "}";
            } else if (start >= 0 && lines[i].equals(end)) {
                Check.holds("line " + (start + 1) + ": a short method", i - start <= 60);
                start = -1;
            } else if (start >= 0 && MAKES.matcher(lines[i]).find()) {
                Check.holds("line " + (i + 1) + ": made by a constructor", MAKERS.matcher(lines[start]).find());
            }
        }
    }
}
