import java.io.ByteArrayOutputStream;
import java.io.IOException;
import java.io.PrintStream;
import java.nio.charset.StandardCharsets;
import java.nio.file.Files;
import java.nio.file.Path;
import java.util.Set;
import java.util.TreeSet;
import java.util.regex.Matcher;
import java.util.regex.Pattern;
import java.util.stream.Collectors;
import java.util.stream.Stream;

/** README.md says what is so: its example, the numbers of its refusals, the files and the tests that it names. */
public final class ReadmeTest {
    private static final Path TESTS = Path.of("src/test/java");

    private ReadmeTest() {
    }

    public static void main(String[] args) throws IOException {
        String readme = Files.readString(Path.of("README.md"));
        same("the example", blockOf(readme, "java"), Files.readString(TESTS.resolve("Example.java")));
        same("what the example prints", blockOf(readme, "text"), printedByExample());
        refusals(readme);
        files(readme);
        same("the tests of the table", found(readme, "(?m)^\\| (\\w+Test) \\|").toString(), testsThere().toString());
        Check.end();
    }

    private static void same(String what, String got, String want) {
        boolean same = got.equals(want);
        if (!same) {
            System.out.println(what + " in README.md:\n" + got + "\nis:\n" + want);
        }
        Check.due("README.md: " + what, same ? 1 : 0, 1);
    }

    private static String blockOf(String readme, String language) {
        Matcher block = Pattern.compile("(?s)```" + language + "\n(.*?)```").matcher(readme);
        return block.find() ? block.group(1) : "";
    }

    private static String printedByExample() {
        PrintStream screen = System.out;
        ByteArrayOutputStream printed = new ByteArrayOutputStream();
        System.setOut(new PrintStream(printed, true, StandardCharsets.UTF_8));
        Example.main(new String[0]);
        System.setOut(screen);
        return printed.toString(StandardCharsets.UTF_8).replace(System.lineSeparator(), "\n");
    }

    private static void refusals(String readme) {
        String[] names = {"BAD", "FULL", "STATE", "FINDING"};
        int[] numbers = {SignedPages.BAD, SignedPages.FULL, SignedPages.STATE, SignedPages.FINDING};
        int from = 0;
        for (int i = 0; i < names.length; i++) {
            String line = "| `" + names[i] + "` | " + numbers[i] + " |";
            int at = readme.indexOf(line, from);
            Check.due("README.md: " + line + ", in the order of the Terms", at >= from ? 1 : 0, 1);
            from = Math.max(from, at);
        }
        Check.due("README.md: NONE", readme.contains("`NONE` (" + SignedPages.NONE + ")") ? 1 : 0, 1);
    }

    private static void files(String readme) {
        Set<String> named = found(readme, "((?:\\.\\./shared|src|\\.ci)/[\\w/]+(?:\\.\\w+)?)(?![\\w*/])");
        Check.due("README.md names files", named.contains(".ci/run") && named.contains("src/main/java/SignedPages.java") ? 1 : 0, 1);
        for (String file : named) {
            Check.due("README.md: " + file + " is there", Files.exists(Path.of(file)) ? 1 : 0, 1);
        }
        for (String name : found(readme, "`([A-Z]\\w*[a-z])`")) {
            Check.due("README.md: class " + name + " is there", Files.exists(TESTS.resolve(name + ".java")) ? 1 : 0, 1);
        }
    }

    private static Set<String> found(String text, String pattern) {
        Set<String> all = new TreeSet<>();
        Matcher matcher = Pattern.compile(pattern).matcher(text);
        while (matcher.find()) {
            all.add(matcher.group(1));
        }
        return all;
    }

    private static Set<String> testsThere() throws IOException {
        try (Stream<Path> files = Files.list(TESTS)) {
            return files.map(file -> file.getFileName().toString()).filter(name -> name.endsWith("Test.java"))
                .map(name -> name.substring(0, name.length() - ".java".length()))
                .collect(Collectors.toCollection(TreeSet::new));
        }
    }
}
