import java.io.IOException;
import java.lang.reflect.Method;
import java.nio.file.Files;
import java.nio.file.Path;
import java.util.ArrayList;
import java.util.List;
import java.util.TreeSet;
import java.util.regex.MatchResult;
import java.util.regex.Pattern;
import java.util.stream.Stream;

/**
 * The tables of README.md are those of the class and of the tests, and its commands work on a clean
 * checkout. ReadmeExamplesTest has the examples.
 */
public final class ReadmeTest {
    private static final int KINDS = 13;
    private static final int DIFFERENCE = 4;
    private static final Pattern NUMBER = Pattern.compile("-?\\d+");

    public static void main(String[] args) throws IOException, InterruptedException {
        Page page = Page.readme();
        kinds(page.rows("kind"));
        calls(page.rows("call"));
        tests(page.rows("test"));
        commands(page.blocks("sh"));
        Script.finish();
    }

    private static void kinds(List<List<String>> rows) {
        if (rows.size() != KINDS) {
            Script.report("README.md has " + rows.size() + " kinds");
        }
        for (int kind = 0; kind < rows.size(); kind++) {
            List<String> row = rows.get(kind);
            if (!row.get(0).equals(String.valueOf(kind))) {
                Script.report("README.md tells kind " + row.get(0) + " where " + kind + " is due");
            }
            kind(kind, row.subList(2, 5), row.get(5));
        }
    }

    /** Reads a text behind three inputs: it must add a signal of the kind with the operands told. */
    private static void kind(int kind, List<String> operands, String text) {
        WidthMinimizer circuit = new WidthMinimizer();
        for (char character : ("i0:1;i0:1;i0:1;" + text).toCharArray()) {
            circuit.feed(character);
        }
        if (circuit.read() != 4 || circuit.signal(3, 0) != kind) {
            Script.report("README.md: " + text + " does not stand for kind " + kind);
            return;
        }
        // A minus between signals is no sign of a number.
        List<String> numbers = NUMBER.matcher(kind == DIFFERENCE ? text.replace('-', ' ') : text)
                .results().map(MatchResult::group).toList();
        long told = operands.stream().filter(operand -> !operand.isEmpty()).count();
        if (told != numbers.size()) {
            Script.report("README.md: the table tells " + told + " operands of kind " + kind);
        }
        for (int i = 0; i < operands.size(); i++) {
            int due = i < numbers.size() ? Integer.parseInt(numbers.get(i)) : 0;
            if (circuit.signal(3, i + 1) != due) {
                Script.report("README.md: operand " + i + " of " + text + " is " + circuit.signal(3, i + 1));
            }
        }
    }

    private static void calls(List<List<String>> rows) {
        TreeSet<String> told = new TreeSet<>();
        for (List<String> row : rows) {
            String inside = row.get(0).replaceAll(".*\\(|\\).*", "");
            int parameters = inside.isEmpty() ? 0 : inside.split(",").length;
            String name = row.get(0).replaceAll("\\(.*", "");
            told.add(name + " " + parameters + " " + (row.size() > 2 ? row.get(2) : ""));
        }
        TreeSet<String> due = new TreeSet<>();
        for (Method method : WidthMinimizer.class.getMethods()) {
            if (method.getDeclaringClass() == WidthMinimizer.class) {
                due.add(method.getName() + " " + method.getParameterCount() + " " + thrown(method));
            }
        }
        same("calls", told, due);
    }

    private static String thrown(Method method) {
        List<String> names = new ArrayList<>();
        for (Class<?> type : method.getExceptionTypes()) {
            names.add(type.getSimpleName());
        }
        return String.join(", ", names);
    }

    private static void tests(List<List<String>> rows) throws IOException {
        TreeSet<String> told = new TreeSet<>();
        for (List<String> row : rows) {
            told.add(row.get(0));
        }
        TreeSet<String> due = new TreeSet<>();
        try (Stream<Path> files = Files.list(Path.of("src/test/java"))) {
            files.map(file -> file.getFileName().toString()).filter(name -> name.endsWith("Test.java"))
                    .forEach(name -> due.add(name.replace(".java", "")));
        }
        same("tests", told, due);
    }

    private static void same(String what, TreeSet<String> told, TreeSet<String> due) {
        if (!told.equals(due)) {
            TreeSet<String> missing = new TreeSet<>(due);
            missing.removeAll(told);
            told.removeAll(due);
            Script.report("README.md, " + what + ": it lacks " + missing + " and tells wrongly " + told);
        }
    }

    private static void commands(List<List<String>> blocks) throws IOException, InterruptedException {
        CleanCopy copy = CleanCopy.make();
        boolean runsTests = false;
        for (List<String> block : blocks) {
            String commands = String.join("\n", block);
            int code = copy.run(commands);
            if (code != 0) {
                Script.report("README.md: " + commands + " ends with " + code + "\n" + copy.printed());
            }
            runsTests |= copy.printed().contains("ok    ExamplesTest")
                    && copy.printed().contains("ok    SharedRuns");
        }
        copy.delete();
        if (!runsTests) {
            Script.report("README.md does not tell how all tests are run");
        }
    }
}
