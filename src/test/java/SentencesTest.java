import java.io.IOException;
import java.lang.reflect.Method;
import java.nio.charset.StandardCharsets;
import java.nio.file.Files;
import java.nio.file.Path;
import java.util.regex.Matcher;
import java.util.regex.Pattern;

/** Each test that src/test/SENTENCES.md names is there, and each promise is named. */
public final class SentencesTest {
    private final Check check = new Check("SentencesTest");

    public static void main(String[] args) throws IOException {
        SentencesTest test = new SentencesTest();
        String table = Files.readString(Path.of("src/test/SENTENCES.md"), StandardCharsets.UTF_8);
        test.namedTests(table);
        test.promises(table);
        test.check.end();
    }

    private void namedTests(String table) {
        Matcher named = Pattern.compile("`(\\w+Test)\\.(\\w+)`").matcher(table);
        while (named.find()) {
            check.due(named.group(), isThere(named.group(1), named.group(2)) ? 1 : 0, 1);
        }
    }

    private static boolean isThere(String type, String name) {
        try {
            for (Method method : Class.forName(type).getDeclaredMethods()) {
                if (method.getName().equals(name)) {
                    return true;
                }
            }
            return false;
        } catch (ClassNotFoundException missing) {
            return false;
        }
    }

    private void promises(String table) {
        for (int promise = 1; promise <= 28; promise++) {
            boolean named = Pattern.compile("(?m)^\\| ([\\d, ]+, )?" + promise + "(, \\d+)? \\|").matcher(table).find();
            check.due("the promise " + promise, named ? 1 : 0, 1);
        }
    }
}
