import java.lang.reflect.InvocationTargetException;
import java.lang.reflect.Method;
import java.util.ArrayList;
import java.util.HashMap;
import java.util.List;
import java.util.Map;

/** A call of a method of the face with its arguments, which can be made of any object. */
final class Call {
    private static final Map<String, Method> METHODS = new HashMap<>();

    static {
        for (Method method : WidthMinimizer.class.getMethods()) {
            if (method.getDeclaringClass() == WidthMinimizer.class) {
                METHODS.put(method.getName(), method);
            }
        }
    }

    private final String name;
    private final Object[] arguments;

    Call(String name, Object... arguments) {
        this.name = name;
        this.arguments = arguments;
    }

    /** Reads a call such as "range(0, true)", "feed('k')" or "feed(65535)", by the code of the sign. */
    static Call read(String line) {
        int open = line.indexOf('(');
        String name = line.substring(0, open);
        String inside = line.substring(open + 1, line.length() - 1);
        List<Object> arguments = new ArrayList<>();
        if (inside.startsWith("'")) {
            arguments.add(inside.charAt(1));
        } else if (name.equals("feed")) {
            arguments.add((char) Integer.parseInt(inside));
        } else if (!inside.isEmpty()) {
            for (String argument : inside.split(",")) {
                arguments.add(valueOf(argument.trim()));
            }
        }
        return new Call(name, arguments.toArray());
    }

    private static Object valueOf(String argument) {
        if (argument.equals("true") || argument.equals("false")) {
            return argument.equals("true");
        }
        if (argument.equals("MIN")) {
            return Integer.MIN_VALUE;
        }
        return argument.equals("MAX") ? Integer.valueOf(Integer.MAX_VALUE) : Integer.valueOf(argument);
    }

    /** The answer as a text, "throws.ItsName" for an exception. */
    String answerOf(WidthMinimizer object) {
        Method method = METHODS.get(name);
        if (method == null) {
            return "no such method";
        }
        try {
            return String.valueOf(method.invoke(object, arguments));
        } catch (InvocationTargetException e) {
            return "throws." + e.getCause().getClass().getSimpleName();
        } catch (IllegalAccessException e) {
            return "no access";
        }
    }
}
