import java.io.IOException;
import java.nio.charset.StandardCharsets;
import java.nio.file.Files;
import java.nio.file.Path;

/** The program in README.md prints what README.md says that it prints. */
public final class ReadmeTest {
    private static final String FENCE = "```";

    public static void main(String[] args) throws IOException, InterruptedException {
        String page = Files.readString(Path.of("README.md"));
        Path folder = Files.createTempDirectory("readme");
        Path program = folder.resolve("Example.java");
        Files.writeString(program, block(page, "java"));
        String printed = run(program);
        Files.delete(program);
        Files.delete(folder);

        Due due = new Due();
        String[] got = printed.split("\n");
        String[] want = block(page, "text").split("\n");
        due.same("the lines that it prints", got.length, want.length);
        for (int i = 0; i < Math.min(got.length, want.length); i++) {
            due.same("\"" + got[i] + "\" is as on the page, 1 or 0,", got[i].equals(want[i]) ? 1 : 0, 1);
        }
        due.end();
    }

    /** What stands between the first fence of this kind and the one that ends it. */
    private static String block(String page, String kind) {
        String opening = "\n" + FENCE + kind + "\n";
        int start = page.indexOf(opening);
        int end = page.indexOf("\n" + FENCE, start + opening.length());
        if (start < 0 || end < 0) {
            throw new IllegalStateException("README.md has no block of " + kind);
        }
        return page.substring(start + opening.length(), end);
    }

    private static String run(Path program) throws IOException, InterruptedException {
        String java = Path.of(System.getProperty("java.home"), "bin", "java").toString();
        String classes = System.getProperty("java.class.path");
        Process process = new ProcessBuilder(java, "-cp", classes, program.toString())
                .redirectErrorStream(true)
                .start();
        String printed = new String(process.getInputStream().readAllBytes(), StandardCharsets.UTF_8);
        return process.waitFor() == 0 ? printed : printed + "it ended with " + process.exitValue();
    }
}
