import java.lang.reflect.InvocationTargetException;
import java.lang.reflect.Method;
import java.util.ArrayList;
import java.util.List;

/**
 * Runs of calls as a text, a call with its due answer on each line: "add(0, 0, 9, 0) = 0".
 * An exception is due as "throws.ItsName"; text("k5;r0") feeds each character and answers the
 * last length; a line behind # is a comment. A line that begins with ! also checks that the call
 * leaves unchanged all that can be asked without a change.
 */
final class Script {
    private static final int MAX_CALLS = 512;
    private static int wrong = 0;

    private final String name;
    private final WidthMinimizer object = new WidthMinimizer();
    private int calls = 0;

    private Script(String name) {
        this.name = name;
    }

    static void run(String name, String lines) {
        Script script = new Script(name);
        for (String line : lines.split("\n")) {
            String trimmed = line.trim();
            if (!trimmed.isEmpty() && !trimmed.startsWith("#")) {
                script.line(trimmed);
            }
        }
        if (script.calls > MAX_CALLS) {
            report(name + ": has more than 512 calls");
        }
    }

    static void report(String message) {
        wrong++;
        System.out.println(message);
    }

    static void finish() {
        if (wrong != 0) {
            System.out.println(wrong + " answers are not as due");
            System.exit(1);
        }
    }

    private void line(String line) {
        boolean mustKeep = line.startsWith("!");
        String rest = mustKeep ? line.substring(1).trim() : line;
        int split = rest.lastIndexOf(") = ") + 1;
        String call = rest.substring(0, split);
        String due = rest.substring(split + 3).trim();
        String before = mustKeep ? everything() : "";
        String got = answer(call);
        if (!got.equals(due)) {
            report(name + ": " + call + " answered " + got + ", due is " + due);
        }
        if (mustKeep && !everything().equals(before)) {
            report(name + ": " + call + " changed the state");
        }
    }

    private String answer(String call) {
        int open = call.indexOf('(');
        String method = call.substring(0, open);
        String arguments = call.substring(open + 1, call.length() - 1);
        if (method.equals("text")) {
            String last = "";
            for (char character : arguments.substring(1, arguments.length() - 1).toCharArray()) {
                last = answerOf("feed", List.of((Object) character));
            }
            return last;
        }
        List<Object> parsed = new ArrayList<>();
        if (arguments.startsWith("'")) {
            parsed.add(arguments.charAt(1));
        } else if (!arguments.isEmpty()) {
            for (String argument : arguments.split(",")) {
                parsed.add(parse(argument.trim()));
            }
        }
        return answerOf(method, parsed);
    }

    private static Object parse(String argument) {
        if (argument.equals("true") || argument.equals("false")) {
            return argument.equals("true");
        }
        return Integer.valueOf(argument);
    }

    private String answerOf(String name, List<Object> arguments) {
        calls++;
        for (Method method : WidthMinimizer.class.getMethods()) {
            if (method.getName().equals(name) && method.getDeclaringClass() == WidthMinimizer.class) {
                try {
                    return String.valueOf(method.invoke(object, arguments.toArray()));
                } catch (InvocationTargetException e) {
                    return "throws." + e.getCause().getClass().getSimpleName();
                } catch (IllegalAccessException e) {
                    return "no access";
                }
            }
        }
        return "no such method";
    }

    private String everything() {
        StringBuilder all = new StringBuilder();
        int count = object.count();
        all.append(count).append(' ').append(answer("rounds()")).append(' ').append(answer("units()"));
        for (int what = 0; what <= 4; what++) {
            all.append(' ').append(answer("total(" + what + ")"));
        }
        for (int level = 0; level <= 2; level++) {
            all.append(' ').append(answer("fault(" + level + ", 0)"));
            all.append(' ').append(answer("fault(" + level + ", 1)"));
        }
        for (int i = 0; i < count; i++) {
            for (int what = 0; what <= 6; what++) {
                all.append(' ').append(answer("signal(" + i + ", " + what + ")"));
            }
            all.append(' ').append(answer("value(" + i + ", false)"));
            all.append(' ').append(answer("value(" + i + ", true)"));
        }
        return all.toString();
    }
}
