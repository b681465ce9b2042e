import java.io.File;
import java.io.IOException;
import java.nio.charset.StandardCharsets;
import java.nio.file.Files;
import java.nio.file.Path;
import java.util.ArrayList;
import java.util.List;

/** README.md's example compiles, and prints what README.md says. Run from the project's directory. */
public final class ReadmeTest {
    private static final Checks CHECKS = new Checks();
    private static final Path PROGRAM = Path.of("src", "main", "java", "WordMill.java");

    public static void main(String[] args) throws IOException, InterruptedException {
        List<String> readme = Files.readAllLines(Path.of("README.md"), StandardCharsets.UTF_8);
        List<String> example = block(readme, "```java");
        List<String> due = block(readme, "```text");
        CHECKS.same("README.md has an example", example.isEmpty() ? 0 : 1, 1);
        CHECKS.same("README.md says what it prints", due.isEmpty() ? 0 : 1, 1);
        Path room = Files.createTempDirectory("readme");
        try {
            sameLines(printedBy(example, room), due);
        } finally {
            remove(room);
        }
        CHECKS.end();
    }

    /** The lines of the one block that begins so: with a second one, it would be open which of them is tested. */
    private static List<String> block(List<String> lines, String start) {
        int first = lines.indexOf(start);
        CHECKS.same("blocks " + start, lines.stream().filter(start::equals).count(), 1);
        List<String> found = new ArrayList<>();
        for (int i = first + 1; first >= 0 && i < lines.size() && !lines.get(i).equals("```"); i++) {
            found.add(lines.get(i));
        }
        return found;
    }

    private static List<String> printedBy(List<String> example, Path room) throws IOException, InterruptedException {
        Path source = room.resolve("Example.java");
        Files.write(source, example);
        String classes = room.toString();
        command("javac", "--release", "17", "-d", classes, PROGRAM.toString(), source.toString());
        return command("java", "-cp", classes, "Example");
    }

    private static List<String> command(String... words) throws IOException, InterruptedException {
        Process process = new ProcessBuilder(words).redirectError(ProcessBuilder.Redirect.INHERIT).start();
        process.getOutputStream().close();
        String text = new String(process.getInputStream().readAllBytes(), StandardCharsets.UTF_8);
        CHECKS.same("exit code of " + words[0], process.waitFor(), 0);
        return text.lines().toList();
    }

    private static void sameLines(List<String> got, List<String> due) {
        CHECKS.same("lines", got.size(), due.size());
        for (int i = 0; i < Math.max(got.size(), due.size()); i++) {
            String gotLine = i < got.size() ? got.get(i) : "no line";
            String dueLine = i < due.size() ? due.get(i) : "no line";
            if (!gotLine.equals(dueLine)) {
                System.out.println("line " + (i + 1) + ": \"" + gotLine + "\", due is \"" + dueLine + "\"");
            }
            CHECKS.same("line " + (i + 1) + " is as due", gotLine.equals(dueLine) ? 1 : 0, 1);
        }
    }

    private static void remove(Path room) {
        File[] files = room.toFile().listFiles();
        for (File file : files == null ? new File[0] : files) {
            file.delete();
        }
        room.toFile().delete();
    }
}
