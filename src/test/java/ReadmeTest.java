import java.io.IOException;
import java.lang.reflect.Method;
import java.lang.reflect.Modifier;
import java.nio.file.DirectoryStream;
import java.nio.file.Files;
import java.nio.file.Path;

/** README.md: its example prints what it says there, and it names every call and every test. */
public final class ReadmeTest {
    /** Of abcdefg and a hundred 0s with the key 42, as hashlib worked it out. */
    private static final String DIGEST = "010a7c588518de494f2993a8b6c1f93699dbd007";

    public static void main(String[] args) throws IOException, InterruptedException {
        String readme = Files.readString(Path.of("README.md"));
        example(between(readme, "```java\n", "```"));
        calls(readme);
        tests(readme);
        Checks.end();
    }

    private static void example(String lines) throws IOException, InterruptedException {
        Checks.sentence("README.md says how to use the class");
        Checks.due("what it says", between(lines, "// prints ", "\n"), DIGEST);
        Checks.due("what it prints", printed(lines), DIGEST);
    }

    private static String between(String text, String before, String behind) {
        int from = text.indexOf(before) + before.length();
        return text.substring(from, text.indexOf(behind, from));
    }

    // Run as it stands in the file: an example that was copied here could differ from it.
    private static String printed(String lines) throws IOException, InterruptedException {
        Path source = Files.createTempFile("Example", ".java");
        try {
            Files.writeString(source, "class Example { public static void main(String[] args) {\n"
                    + lines + "}}\n");
            String java = Path.of(System.getProperty("java.home"), "bin", "java").toString();
            Process run = new ProcessBuilder(java, "-cp", System.getProperty("java.class.path"),
                    source.toString()).redirectErrorStream(true).start();
            String text = new String(run.getInputStream().readAllBytes());
            Checks.due("its exit code", run.waitFor(), 0);
            return text;
        } finally {
            Files.delete(source);
        }
    }

    private static void calls(String readme) {
        Checks.sentence("README.md names every call");
        for (Method method : KeyedDigest.class.getDeclaredMethods()) {
            if (Modifier.isPublic(method.getModifiers())) {
                boolean named = readme.contains("| `" + method.getName() + "(");
                Checks.due(method.getName() + " is named", named, true);
            }
        }
    }

    private static void tests(String readme) throws IOException {
        Checks.sentence("README.md names every test");
        try (DirectoryStream<Path> files = Files.newDirectoryStream(Path.of("src/test/java"))) {
            for (Path file : files) {
                String name = file.getFileName().toString().replace(".java", "");
                Checks.due(name + " is named", readme.contains("`" + name + "`"), true);
            }
        }
    }
}
