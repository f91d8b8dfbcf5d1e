import java.io.IOException;
import java.nio.charset.StandardCharsets;
import java.nio.file.Files;
import java.nio.file.Path;
import java.util.List;
import java.util.regex.Pattern;

/** Rules of ../shared/LANGUAGE.md that the text of the class shows. */
public final class LanguageTest {
    private static final int LONGEST_METHOD = 60;

    private final Check check = new Check("LanguageTest");

    public static void main(String[] args) throws IOException {
        LanguageTest test = new LanguageTest();
        List<String> lines = Files.readAllLines(Path.of("src/main/java/WordMaze.java"), StandardCharsets.UTF_8);
        String code = String.join("\n", lines).replaceAll("(?s)/\\*.*?\\*/", "").replaceAll("//[^\n]*", "");
        test.wordsLeftOut(code);
        test.signs(lines);
        test.imports(lines);
        test.methodLengths(lines);
        test.check.end();
    }

    private void wordsLeftOut(String code) {
        String[] patterns = {
            "\\b(throw|throws|try|catch|finally|synchronized|assert|native|volatile|yield)\\b", "->", "::",
            "\\b(System\\.(?!arraycopy)\\w+|Thread|Random|Math\\.\\w+Exact)", "\\bstatic\\s*\\{", "\\bObject\\b",
            "\\b(equals|hashCode|toString)\\s*\\(", "@\\w+", "\\bpackage\\b", "\\bprotected\\b"
        };
        for (String pattern : patterns) {
            check.due("the text " + pattern, Pattern.compile(pattern).matcher(code).find() ? 1 : 0, 0);
        }
    }

    private void signs(List<String> lines) {
        for (String line : lines) {
            check.due("signs of: " + line, line.chars().allMatch(sign -> sign >= 32 && sign < 127) ? 1 : 0, 1);
        }
    }

    private void imports(List<String> lines) {
        for (String line : lines) {
            if (line.startsWith("import ")) {
                check.due(line, line.matches("import java\\.util\\.(Arrays|List|ArrayList);") ? 1 : 0, 1);
            }
        }
    }

    /** Methods begin with a line that ends with ") {" behind at most eight blanks, and end at the same depth. */
    private void methodLengths(List<String> lines) {
        for (int first = 0; first < lines.size(); first++) {
            if (lines.get(first).matches(" {4}( {4})?[A-Za-z].*\\) \\{")) {
                String end = lines.get(first).replaceAll("[^ ].*", "") + "}";
                int last = first;
                while (last < lines.size() && !lines.get(last).equals(end)) {
                    last++;
                }
                check.due("length of " + lines.get(first).trim(), last - first < LONGEST_METHOD ? 1 : 0, 1);
            }
        }
    }
}
