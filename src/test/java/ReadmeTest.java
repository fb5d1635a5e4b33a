import java.io.IOException;
import java.nio.charset.StandardCharsets;
import java.nio.file.Files;
import java.nio.file.Path;
import java.util.List;
import java.util.stream.Stream;

/** The example of README.md is compiled and run as it stands there, and prints what stands there. */
public final class ReadmeTest {
    private ReadmeTest() { }

    /** What stands between the fences of the only block of this kind. */
    private static String block(String text, String kind) {
        String opening = "\n```" + kind + "\n";
        int begin = text.indexOf(opening);
        if (begin < 0 || begin != text.lastIndexOf(opening)) {
            throw new AssertionError("README.md has not one block of " + kind);
        }
        begin += opening.length();
        return text.substring(begin, text.indexOf("```\n", begin));
    }

    /** What the command prints; a command that fails is a failure of the test. */
    private static String printed(Path folder, List<String> command) throws IOException, InterruptedException {
        Process process = new ProcessBuilder(command).directory(folder.toFile())
                .redirectError(ProcessBuilder.Redirect.INHERIT).start();
        String printed = new String(process.getInputStream().readAllBytes(), StandardCharsets.UTF_8);
        if (process.waitFor() != 0) {
            throw new AssertionError(command + " failed: " + printed);
        }
        return printed.replace("\r\n", "\n");
    }

    /** At the end, what was named last goes first, so that a folder is empty when it goes. */
    private static void delete(Path folder) throws IOException {
        try (Stream<Path> files = Files.walk(folder)) {
            files.forEach(file -> file.toFile().deleteOnExit());
        }
    }

    public static void main(String[] args) throws IOException, InterruptedException {
        String readme = Files.readString(Path.of("README.md"));
        String program = Path.of("src/main/java/LinkTraining.java").toAbsolutePath().toString();
        Path folder = Files.createTempDirectory("readme");
        Files.writeString(folder.resolve("Example.java"), block(readme, "java"));
        printed(folder, List.of("javac", "-d", "out", program, "Example.java"));
        String got = printed(folder, List.of("java", "-cp", "out", "Example"));
        String due = block(readme, "text");
        delete(folder);
        boolean same = got.equals(due);
        System.out.println(same ? "the example of README.md prints what it says"
                : "the example of README.md printed\n" + got + "but README.md says\n" + due);
        System.exit(same ? 0 : 1);
    }
}
