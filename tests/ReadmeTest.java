import java.io.IOException;
import java.net.URL;
import java.net.URLClassLoader;
import java.nio.file.Files;
import java.nio.file.Path;
import java.util.ArrayList;
import java.util.List;
import java.util.regex.Matcher;
import java.util.regex.Pattern;

/** README.md: its examples, one behind the other on one object, answer what stands behind them, and it names all calls. */
public final class ReadmeTest {
    private static final String EXAMPLE = "ReadmeExample";
    /** A call in a line of its own, and the answer told behind it. */
    private static final Pattern TOLD = Pattern.compile("(x\\.\\w+\\(.*\\)); *// (-?\\d+)(:.*)?");
    private static final Pattern OF_THE_FACE = Pattern.compile("public (?:int|long) (\\w+)\\(");

    private ReadmeTest() {
    }

    public static void main(String[] args) throws Exception {
        List<String> readme = Files.readAllLines(Path.of("README.md"));
        List<Object[]> answers = new ArrayList<>();
        compiled(exampleOf(readme)).getMethod("run", List.class).invoke(null, answers);
        for (Object[] answer : answers) {
            Check.due("README.md: " + answer[0], (Long) answer[1], (Long) answer[2]);
        }
        Check.holds("README.md tells answers", answers.size() > 10);
        namesAllCalls(String.join("\n", readme));
        Check.end("ReadmeTest");
    }

    private static String exampleOf(List<String> readme) {
        StringBuilder source = new StringBuilder("public class " + EXAMPLE + " {\n"
            + "public static void run(java.util.List<Object[]> answers) {\n");
        boolean inside = false;
        for (String line : readme) {
            if (line.startsWith("```")) {
                inside = line.equals("```java");
            } else if (inside) {
                source.append(withAnswerKept(line)).append('\n');
            }
        }
        return source.append("}\n}\n").toString();
    }

    private static String withAnswerKept(String line) {
        Matcher told = TOLD.matcher(line);
        return told.matches()
            ? "answers.add(new Object[] {\"" + told.group(1) + "\", (long) " + told.group(1) + ", " + told.group(2) + "L});"
            : line;
    }

    private static Class<?> compiled(String source) throws Exception {
        Path folder = Files.createTempDirectory("readme");
        Path file = folder.resolve(EXAMPLE + ".java");
        Path made = folder.resolve(EXAMPLE + ".class");
        // What is named last is deleted first, so the folder is empty by its turn.
        for (Path left : List.of(folder, file, made)) {
            left.toFile().deleteOnExit();
        }
        Files.writeString(file, source);
        Process javac = new ProcessBuilder("javac", "-d", folder.toString(),
            "-cp", System.getProperty("java.class.path"), file.toString()).inheritIO().start();
        Check.due("compiling README.md's examples", javac.waitFor(), 0);
        return new URLClassLoader(new URL[] {folder.toUri().toURL()}).loadClass(EXAMPLE);
    }

    private static void namesAllCalls(String readme) throws IOException {
        Matcher call = OF_THE_FACE.matcher(Files.readString(Path.of("../shared/DOC.md")));
        int calls = 0;
        while (call.find()) {
            Check.holds("README.md names " + call.group(1), readme.contains("`" + call.group(1) + "`"));
            calls++;
        }
        Check.due("calls of the face", calls, 41);
    }
}
