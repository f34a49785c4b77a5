import java.io.IOException;
import java.net.URL;
import java.net.URLClassLoader;
import java.nio.file.Files;
import java.nio.file.Path;
import java.util.ArrayList;
import java.util.List;
import java.util.regex.Matcher;
import java.util.regex.Pattern;
import javax.tools.JavaCompiler;
import javax.tools.ToolProvider;

/** The calls that README.md shows, all blocks one behind another as one run, answer what stands behind them there. */
public final class ReadmeTest extends Checks {
    private static final String MADE = "ThirstPay x = new ThirstPay();";
    private static final Pattern CALL = Pattern.compile("(?:int (\\w+) = )?(x\\.\\w+\\(.*\\));\\s+// (-?\\d+)(?:[:;] .*)?");

    public static void main(String[] args) throws Exception {
        List<String> lines = shownLines();
        List<Matcher> calls = new ArrayList<>();
        for (String line : lines) {
            Matcher call = CALL.matcher(line);
            due(0, "README.md's line '" + line + "' as a call with its answer", line.equals(MADE) || call.matches() ? 1 : 0, 1);
            if (call.matches()) {
                calls.add(call);
            }
        }
        due(0, "README.md: are there calls", calls.isEmpty() ? 0 : 1, 1);
        int[] answers = answersTo(calls);
        for (int i = 0; i < calls.size(); i++) {
            due(0, "README.md: " + calls.get(i).group(2), answers[i], Integer.parseInt(calls.get(i).group(3)));
        }
        end("ReadmeTest");
    }

    private static List<String> shownLines() throws IOException {
        List<String> shown = new ArrayList<>();
        boolean inside = false;
        for (String line : Files.readAllLines(Path.of("README.md"))) {
            if (line.startsWith("```")) {
                inside = line.equals("```java");
            } else if (inside) {
                shown.add(line);
            }
        }
        return shown;
    }

    private static int[] answersTo(List<Matcher> calls) throws Exception {
        StringBuilder source = new StringBuilder("public final class Shown {\n    public static int[] answers() {\n");
        source.append(MADE).append("\nint[] answers = new int[").append(calls.size()).append("];\n");
        for (int i = 0; i < calls.size(); i++) {
            String name = calls.get(i).group(1);
            source.append(name == null ? "" : "int " + name + " = ");
            source.append("answers[").append(i).append("] = ").append(calls.get(i).group(2)).append(";\n");
        }
        source.append("return answers;\n    }\n}\n");
        Path place = Files.createTempDirectory("shown");
        Path file = place.resolve("Shown.java");
        Files.writeString(file, source);
        JavaCompiler compiler = ToolProvider.getSystemJavaCompiler();
        String classes = System.getProperty("java.class.path");
        int failed = compiler.run(null, null, null, "-cp", classes, "-d", place.toString(), file.toString());
        due(0, "README.md's calls as Java: javac", failed, 0);
        try (URLClassLoader loader = new URLClassLoader(new URL[] {place.toUri().toURL()})) {
            return (int[]) loader.loadClass("Shown").getMethod("answers").invoke(null);
        } finally {
            Files.deleteIfExists(place.resolve("Shown.class"));
            Files.deleteIfExists(file);
            Files.deleteIfExists(place);
        }
    }
}
