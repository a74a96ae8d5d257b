import java.io.IOException;
import java.lang.reflect.Method;
import java.lang.reflect.Modifier;
import java.nio.file.Files;
import java.nio.file.Path;
import java.util.stream.Stream;

/** README.md holds what it tells: its program compiles and prints what is said, and no call or test is left out. */
public final class ReadmeTest {
    private static final Path TESTS = Path.of("src/test/java");
    private static String page = "";

    public static void main(String[] args) throws IOException, InterruptedException {
        page = Files.readString(Path.of("README.md"));
        program();
        calls();
        tests();
        Check.finish();
    }

    private static void program() throws IOException, InterruptedException {
        Path folder = Files.createTempDirectory("readme");
        try {
            Path source = Files.writeString(folder.resolve("Example.java"), block("java"));
            String main = "src/main/java/PinballScorer.java";
            String classes = folder.toString();
            Check.equal("javac", printed("javac", "-encoding", "UTF-8", "-d", classes, main, source.toString()), "");
            Check.equal("the program", printed("java", "-cp", classes, "Example"), block("text"));
        } finally {
            delete(folder);
        }
    }

    private static String block(String kind) {
        String start = "```" + kind + "\n";
        int from = page.indexOf(start);
        int to = page.indexOf("```\n", from + start.length());
        return from < 0 || to < 0 ? "no block of " + kind : page.substring(from + start.length(), to);
    }

    private static String printed(String... command) throws IOException, InterruptedException {
        Process process = new ProcessBuilder(command).redirectError(ProcessBuilder.Redirect.INHERIT).start();
        String text = new String(process.getInputStream().readAllBytes()).replace("\r\n", "\n");
        Check.equal("exit code of " + command[0], process.waitFor(), 0);
        return text;
    }

    private static void delete(Path folder) throws IOException {
        try (Stream<Path> files = Files.list(folder)) {
            for (Path file : files.toList()) {
                Files.delete(file);
            }
        }
        Files.delete(folder);
    }

    private static void calls() {
        for (Method method : PinballScorer.class.getDeclaredMethods()) {
            if (Modifier.isPublic(method.getModifiers())) {
                names(method.getName());
                for (Class<?> exception : method.getExceptionTypes()) {
                    names(exception.getName().replace("java.lang.", ""));
                }
            }
        }
    }

    private static void tests() throws IOException {
        try (Stream<Path> files = Files.list(TESTS)) {
            for (Path file : files.toList()) {
                names(file.getFileName().toString().replace(".java", ""));
            }
        }
    }

    private static void names(String word) {
        Check.equal("README.md names " + word, page.contains("`" + word + "`"), true);
    }
}
