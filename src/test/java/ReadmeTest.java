import java.io.IOException;
import java.nio.file.Files;
import java.nio.file.Path;

/** The program that README.md shows prints what README.md tells. */
public final class ReadmeTest {
    private ReadmeTest() {
    }

    public static void main(String[] args) throws IOException, InterruptedException {
        Checks checks = new Checks("ReadmeTest");
        String readme = Files.readString(Path.of("README.md"));
        checks.due("the program of README.md prints", printedBy(block(readme, "java")),
                block(readme, "text"));
        checks.end();
    }

    /** What stands between a line of three backquotes and the kind, and the next of backquotes. */
    private static String block(String text, String kind) {
        String begin = "```" + kind + "\n";
        int from = text.indexOf(begin);
        int to = text.indexOf("```\n", from + begin.length());
        return from < 0 || to < 0 ? "" : text.substring(from + begin.length(), to);
    }

    private static String printedBy(String program) throws IOException, InterruptedException {
        Path folder = Files.createDirectories(Path.of("build"));
        Path file = Files.writeString(folder.resolve("Example.java"), program);
        Process run = new ProcessBuilder(Path.of(System.getProperty("java.home"), "bin", "java")
                .toString(), "-cp", System.getProperty("java.class.path"), file.toString())
                .redirectErrorStream(true).start();
        String printed = new String(run.getInputStream().readAllBytes());
        run.waitFor();
        Files.delete(file);
        return printed.replace("\r", "");
    }
}
