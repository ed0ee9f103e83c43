import java.io.IOException;
import java.nio.file.Files;
import java.nio.file.Path;
import java.util.ArrayList;
import java.util.List;

/** A page in Markdown, README.md: its blocks of code and its tables. */
final class Page {
    private final List<String> lines;

    private Page(List<String> lines) {
        this.lines = lines;
    }

    static Page readme() throws IOException {
        return new Page(Files.readAllLines(Path.of("README.md")));
    }

    List<List<String>> blocks(String language) {
        List<List<String>> found = new ArrayList<>();
        List<String> open = null;
        for (String line : lines) {
            if (open == null && line.equals("```" + language)) {
                open = new ArrayList<>();
                found.add(open);
            } else if (line.equals("```")) {
                open = null;
            } else if (open != null) {
                open.add(line);
            }
        }
        if (found.isEmpty()) {
            Script.report("README.md has no block in " + language);
        }
        return found;
    }

    /** The rows of the table whose first column has this heading, each as its cells. */
    List<List<String>> rows(String heading) {
        List<List<String>> found = new ArrayList<>();
        boolean isInside = false;
        for (String line : lines) {
            boolean isHeading = line.startsWith("| " + heading + " |");
            isInside = isHeading || isInside && line.startsWith("|");
            if (isInside && !isHeading && !line.startsWith("| ---")) {
                found.add(cells(line));
            }
        }
        if (found.isEmpty()) {
            Script.report("README.md has no table of each " + heading);
        }
        return found;
    }

    private static List<String> cells(String line) {
        List<String> found = new ArrayList<>();
        // A stroke behind a backslash belongs to the cell.
        for (String cell : line.substring(1).split("(?<!\\\\)\\|")) {
            found.add(cell.trim().replace("`", "").replace("\\|", "|"));
        }
        return found;
    }
}
