import java.io.IOException;
import java.lang.reflect.InvocationTargetException;
import java.net.URL;
import java.net.URLClassLoader;
import java.nio.file.Files;
import java.nio.file.Path;
import java.util.List;
import java.util.regex.Matcher;
import java.util.regex.Pattern;
import javax.tools.ToolProvider;

/** The examples of README.md compile, and each call answers what the comment behind it says. */
public final class ReadmeExamplesTest {
    private static final Pattern ANSWERED =
            Pattern.compile("(int (\\w+) = )?(.+\\));\\s*// (-?\\d+(\\.\\d+)?|true|false|throws \\w+)(: .+)?");
    private static int looked = 0;

    public static void main(String[] args) throws IOException, ReflectiveOperationException {
        List<List<String>> blocks = Page.readme().blocks("java");
        Path folder = Files.createTempDirectory("readme");
        Path file = folder.resolve("ReadmeExamples.java");
        Files.writeString(file, source(blocks));
        if (ToolProvider.getSystemJavaCompiler().run(null, null, null, "-d", folder.toString(),
                "-cp", System.getProperty("java.class.path"), file.toString()) == 0) {
            runExamples(folder);
        } else {
            Script.report("README.md: an example cannot be compiled");
        }
        Files.deleteIfExists(folder.resolve("ReadmeExamples.class"));
        Files.delete(file);
        Files.delete(folder);
        long said = blocks.stream().flatMap(List::stream).filter(line -> line.contains("//")).count();
        if (looked != said) {
            Script.report("README.md: it says " + said + " answers, and " + looked + " were looked at");
        }
        Script.finish();
    }

    /** Called by the examples, which another loader of classes brings in, so it is public. */
    public static void due(String call, Object got, String answer) {
        looked++;
        if (!String.valueOf(got).equals(answer)) {
            Script.report("README.md: " + call + " answered " + got + ", the page says " + answer);
        }
    }

    private static String source(List<List<String>> blocks) {
        StringBuilder text = new StringBuilder("public final class ReadmeExamples {\n");
        text.append("public static void run() {\n");
        for (List<String> block : blocks) {
            text.append("{\n");
            for (String line : block) {
                text.append(line.contains("//") ? checked(line.trim()) : line).append('\n');
            }
            text.append("}\n");
        }
        return text.append("}\n}\n").toString();
    }

    /** A line that says an answer, made one that compares it. */
    private static String checked(String line) {
        Matcher parts = ANSWERED.matcher(line);
        if (!parts.matches()) {
            Script.report("README.md: no answer can be seen in " + line);
            return line;
        }
        String call = parts.group(3);
        String answer = parts.group(4);
        if (parts.group(1) != null) {
            return parts.group(1) + call + ";\n" + comparing(call, parts.group(2), answer);
        }
        if (!answer.startsWith("throws ")) {
            return comparing(call, call, answer);
        }
        String thrown = "\"throws \" + e.getClass().getSimpleName()";
        return "try {\n" + comparing(call, call, answer) + "} catch (RuntimeException e) {\n"
                + comparing(call, thrown, answer) + "}";
    }

    private static String comparing(String call, String got, String answer) {
        String quoted = call.replace("\\", "\\\\").replace("\"", "\\\"");
        return "ReadmeExamplesTest.due(\"" + quoted + "\", " + got + ", \"" + answer + "\");\n";
    }

    private static void runExamples(Path folder) throws IOException, ReflectiveOperationException {
        try (URLClassLoader loader = new URLClassLoader(new URL[] {folder.toUri().toURL()})) {
            loader.loadClass("ReadmeExamples").getMethod("run").invoke(null);
        } catch (InvocationTargetException e) {
            Script.report("README.md: an example ended with " + e.getCause());
        }
    }
}
