import java.io.IOException;
import java.nio.charset.StandardCharsets;
import java.nio.file.Files;
import java.nio.file.Path;

/** What README.md says of the use of the class: its example is run. */
public final class ReadmeTest {
    private static final Check CHECK = new Check();
    private static final String FENCE = "```";

    public static void main(String[] args) throws IOException {
        String readme = Files.readString(Path.of("README.md"));
        CHECK.same("what the example prints", printedBy(block(readme, "java")), block(readme, "text"));
        CHECK.end();
    }

    /** The first block of a language. */
    private static String block(String readme, String language) {
        String opening = "\n" + FENCE + language + "\n";
        int begin = readme.indexOf(opening) + opening.length();
        return readme.substring(begin, readme.indexOf(FENCE + "\n", begin));
    }

    private static String printedBy(String program) throws IOException {
        Path directory = Files.createTempDirectory("readme");
        Path file = directory.resolve("Example.java");
        try {
            Files.writeString(file, program);
            String java = Path.of(System.getProperty("java.home"), "bin", "java").toString();
            ProcessBuilder builder = new ProcessBuilder(
                java, "-cp", System.getProperty("java.class.path"), file.toString());
            Process process = builder.redirectErrorStream(true).start();
            return new String(process.getInputStream().readAllBytes(), StandardCharsets.UTF_8);
        } finally {
            Files.deleteIfExists(file);
            Files.deleteIfExists(directory);
        }
    }
}
