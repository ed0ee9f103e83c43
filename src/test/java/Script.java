import java.util.ArrayList;
import java.util.List;

/**
 * Runs of calls as a text, a call with its due answer on each line: "add(0, 0, 9, 0) = 0".
 * An exception is due as "throws.ItsName"; MIN and MAX are the ends of the ints; text("k5;r0") feeds
 * each character and answers the last length; a line behind # is a comment. A line that begins with
 * ! also checks that the call leaves the whole state unchanged.
 */
final class Script {
    private static final int MAX_CALLS = 512;
    private static int wrong = 0;

    private final String name;
    private final WidthMinimizer object = new WidthMinimizer();
    private final List<Call> calls = new ArrayList<>();

    private Script(String name) {
        this.name = name;
    }

    static void run(String name, String lines) {
        callsOf(name, lines);
    }

    /** Runs the lines and returns their calls, for a Probe. */
    static List<Call> callsOf(String name, String lines) {
        Script script = new Script(name);
        for (String line : lines.split("\n")) {
            String trimmed = line.trim();
            if (!trimmed.isEmpty() && !trimmed.startsWith("#")) {
                script.line(trimmed);
            }
        }
        if (script.calls.size() > MAX_CALLS) {
            report(name + ": has more than 512 calls");
        }
        return script.calls;
    }

    static void report(String message) {
        wrong++;
        System.out.println(message);
    }

    static void finish() {
        if (wrong != 0) {
            System.out.println(wrong + " answers are not as due");
            System.exit(1);
        }
    }

    private void line(String line) {
        boolean mustKeep = line.startsWith("!");
        String rest = mustKeep ? line.substring(1).trim() : line;
        int split = rest.lastIndexOf(") = ") + 1;
        String call = rest.substring(0, split);
        String due = rest.substring(split + 3).trim();
        String before = mustKeep ? Probe.after(calls) : "";
        String got = answer(call);
        if (!got.equals(due.equals("MIN") ? "-2147483648" : due.equals("MAX") ? "2147483647" : due)) {
            report(name + ": " + call + " answered " + got + ", due is " + due);
        }
        if (mustKeep && !Probe.after(calls).equals(before)) {
            report(name + ": " + call + " changed the state");
        }
    }

    private String answer(String call) {
        if (!call.startsWith("text(")) {
            return make(Call.read(call));
        }
        String last = "";
        for (char character : call.substring("text(\"".length(), call.length() - 2).toCharArray()) {
            last = make(new Call("feed", character));
        }
        return last;
    }

    private String make(Call call) {
        calls.add(call);
        return call.answerOf(object);
    }
}
