import java.io.IOException;
import java.lang.reflect.Field;
import java.lang.reflect.Method;
import java.lang.reflect.Modifier;
import java.nio.charset.StandardCharsets;
import java.nio.file.Files;
import java.nio.file.Path;
import java.util.ArrayList;
import java.util.Comparator;
import java.util.List;
import java.util.regex.Matcher;
import java.util.regex.Pattern;
import java.util.stream.Stream;

/** What README.md tells is so: its commands work as they are written, and nothing of the face is left out. */
public final class ReadmeTest {
    /** This test is a part of it, so it is not run from here. */
    private static final String ALL_TESTS = ".ci/run\n";

    private final Check check = new Check("ReadmeTest");
    private final String readme = text("README.md");

    public static void main(String[] args) throws IOException, InterruptedException {
        ReadmeTest test = new ReadmeTest();
        test.commands();
        test.example();
        test.face();
        test.files();
        test.check.end();
    }

    private static String text(String file) {
        try {
            return Files.readString(Path.of(file), StandardCharsets.UTF_8);
        } catch (IOException missing) {
            return "";
        }
    }

    private void yes(String what, boolean answer) {
        check.due(what, answer ? 1 : 0, 1);
    }

    private List<String> blocks(String kind) {
        List<String> found = new ArrayList<>();
        Matcher block = Pattern.compile("(?ms)^```" + kind + "\n(.*?)^```$").matcher(readme);
        while (block.find()) {
            found.add(block.group(1));
        }
        return found;
    }

    /** The commands run beside the files of the checkout, but leave nothing in it. */
    private void commands() throws IOException, InterruptedException {
        Path folder = Files.createTempDirectory("readme");
        Path checkout = Files.createDirectory(folder.resolve("checkout"));
        Files.createSymbolicLink(checkout.resolve("src"), Path.of("src").toRealPath());
        Files.createSymbolicLink(folder.resolve("shared"), Path.of("../shared").toRealPath());
        List<String> all = blocks("sh");
        yes("all tests are told", all.contains(ALL_TESTS));
        yes(".ci/run can be run", Files.isExecutable(Path.of(".ci/run")));
        check.due("blocks of commands", all.size(), 4);
        for (String commands : all) {
            if (!commands.equals(ALL_TESTS)) {
                Path output = folder.resolve("output");
                Process shell = new ProcessBuilder("sh", "-e", "-c", commands).directory(checkout.toFile())
                    .redirectErrorStream(true).redirectOutput(output.toFile()).start();
                check.due("exit code of: " + commands, shell.waitFor(), 0);
                if (commands.contains("Example")) {
                    yes("the output of the example", Files.readString(output).equals(String.join("", blocks("text"))));
                }
            }
        }
        remove(folder);
    }

    private static void remove(Path folder) throws IOException {
        try (Stream<Path> inside = Files.walk(folder)) {
            for (Path one : inside.sorted(Comparator.reverseOrder()).toArray(Path[]::new)) {
                Files.delete(one);
            }
        }
    }

    private void example() {
        String program = text("src/example/java/Example.java").replaceAll("(?m)^ {8}", "");
        List<String> shown = blocks("java");
        check.due("blocks of Java", shown.size(), 1);
        yes("the example is shown as it is", program.contains(shown.get(0)));
    }

    private void face() {
        for (Method method : WordMaze.class.getDeclaredMethods()) {
            if (Modifier.isPublic(method.getModifiers())) {
                String name = method.getName();
                Matcher told = Pattern.compile("`" + name + "\\(([^)]*)\\)`").matcher(readme);
                yes(name + " is told", told.find()
                    && (told.group(1).isEmpty() ? 0 : told.group(1).split(",").length) == method.getParameterCount());
            }
        }
        for (Field field : WordMaze.class.getFields()) {
            yes(field.getName() + " is told", readme.contains("| `" + field.getName() + "` |"));
        }
    }

    /** Each file of the tests is told, and each one that is told is there. */
    private void files() throws IOException {
        try (Stream<Path> tests = Files.list(Path.of("src/test/java"))) {
            for (Path test : tests.toArray(Path[]::new)) {
                String name = test.getFileName().toString().replace(".java", "");
                yes(name + " is told", readme.contains("`" + name + "`"));
            }
        }
        Matcher told = Pattern.compile("`(\\w+Test)`").matcher(readme);
        while (told.find()) {
            yes(told.group(1) + " is there", Files.exists(Path.of("src/test/java/" + told.group(1) + ".java")));
        }
    }
}
