import java.lang.reflect.Constructor;
import java.lang.reflect.Field;
import java.lang.reflect.Method;
import java.lang.reflect.Modifier;
import java.util.TreeSet;

/** The class shows the document's face and nothing else. */
public final class FaceTest {
    private static final String[] FACE = {
        "int add(int,int,int,int) throws IllegalArgumentException,IndexOutOfBoundsException,IllegalStateException",
        "int removeLast() throws NoSuchElementException",
        "int setNext(int,int) throws IndexOutOfBoundsException,UnsupportedOperationException",
        "boolean setOutput(int,boolean) throws IndexOutOfBoundsException",
        "int setPhase(int,int) throws IndexOutOfBoundsException,IllegalArgumentException",
        "int signal(int,int) throws IndexOutOfBoundsException,IllegalArgumentException",
        "int count()",
        "int clear()",
        "int range(int,boolean) throws IndexOutOfBoundsException",
        "int rounds()",
        "int demanded(int) throws IndexOutOfBoundsException",
        "int width(int,boolean) throws IndexOutOfBoundsException",
        "boolean isSigned(int) throws IndexOutOfBoundsException",
        "int cost(int) throws IndexOutOfBoundsException",
        "int total(int) throws IllegalArgumentException",
        "double share() throws ArithmeticException",
        "int units()",
        "int unit(int,int) throws IndexOutOfBoundsException,IllegalArgumentException",
        "int unitOf(int) throws IndexOutOfBoundsException,NoSuchElementException",
        "int setInput(int,int)"
                + " throws IndexOutOfBoundsException,UnsupportedOperationException,IllegalArgumentException",
        "int run(int) throws IllegalArgumentException",
        "int value(int,boolean) throws IndexOutOfBoundsException",
        "int restart()",
        "int feed(char) throws IllegalStateException",
        "int read()",
        "int fault(int,int) throws IllegalArgumentException,NoSuchElementException",
        "int saveSnapshot()",
        "int restoreSnapshot() throws IllegalStateException",
    };

    public static void main(String[] args) {
        TreeSet<String> due = new TreeSet<>(java.util.Arrays.asList(FACE));
        TreeSet<String> got = new TreeSet<>();
        TreeSet<String> hidden = new TreeSet<>();
        for (Method method : WidthMinimizer.class.getDeclaredMethods()) {
            if (Modifier.isPrivate(method.getModifiers()) || method.isSynthetic()) {
                hidden.add(method.getName());
            } else {
                got.add(shown(method));
            }
        }
        if (!got.equals(due)) {
            Script.report("the face is " + got + ", due is " + due);
        }
        for (Method method : WidthMinimizer.class.getMethods()) {
            if (method.getDeclaringClass() == WidthMinimizer.class && hidden.contains(method.getName())) {
                Script.report("a private method is named " + method.getName());
            }
        }
        Constructor<?>[] constructors = WidthMinimizer.class.getDeclaredConstructors();
        if (constructors.length != 1 || constructors[0].getParameterCount() != 0
                || !Modifier.isPublic(constructors[0].getModifiers())) {
            Script.report("the constructor is not the one of the document");
        }
        for (Field field : WidthMinimizer.class.getDeclaredFields()) {
            if (!Modifier.isPrivate(field.getModifiers())) {
                Script.report("the field " + field.getName() + " is not private");
            }
        }
        if (!Modifier.isFinal(WidthMinimizer.class.getModifiers())) {
            Script.report("the class is not final");
        }
        Script.finish();
    }

    private static String shown(Method method) {
        StringBuilder line = new StringBuilder();
        line.append(method.getReturnType().getSimpleName()).append(' ').append(method.getName()).append('(');
        String comma = "";
        for (Class<?> type : method.getParameterTypes()) {
            line.append(comma).append(type.getSimpleName());
            comma = ",";
        }
        line.append(')');
        String before = " throws ";
        for (Class<?> type : method.getExceptionTypes()) {
            line.append(before).append(type.getSimpleName());
            before = ",";
        }
        return line.toString();
    }
}
