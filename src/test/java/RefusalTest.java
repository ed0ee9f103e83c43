/**
 * "A method that throws an exception leaves the state unchanged. If several exceptions apply, the one
 * that is documented first is thrown": each exception of each promise, in the midst of a run with
 * signals, cycles, an input, faults and a snapshot, and each pair of exceptions that can apply at once.
 */
public final class RefusalTest {
    private static final String STANDING = """
            add(0, -3, 12, 0) = 0
            add(2, 100, 0, 0) = 1
            add(3, 0, 1, 0) = 2
            add(5, 0, 0, 0) = 3
            setNext(1, 2) = 1
            setOutput(1, true) = false
            setOutput(3, true) = false
            setPhase(3, 2) = 0
            setInput(0, 7) = -3
            run(4) = 0
            saveSnapshot() = 4
            setInput(0, 5) = 7
            run(3) = 0
            text("k1;o99") = 6
            read() = -1
            text("k5;r") = 4
            value(1, true) = 143
            """;

    private static final String ILLEGAL = "throws.IllegalArgumentException";
    private static final String MISSING = "throws.IndexOutOfBoundsException";
    private static final String STATE = "throws.IllegalStateException";
    private static final String UNSUPPORTED = "throws.UnsupportedOperationException";
    private static final String NO_ELEMENT = "throws.NoSuchElementException";

    /** Each exception alone. */
    private static final String[][] ALONE = {
        {"add(13, 0, 0, 0)", ILLEGAL}, {"add(-1, 0, 0, 0)", ILLEGAL}, {"add(0, 1, 0, 0)", ILLEGAL},
        {"add(1, 4096, 0, 0)", ILLEGAL}, {"add(2, -4097, 0, 0)", ILLEGAL}, {"add(9, 0, 16, 0)", ILLEGAL},
        {"add(10, 0, -1, 0)", ILLEGAL}, {"add(3, 4, 0, 0)", MISSING}, {"add(12, 0, 0, 4)", MISSING},
        {"setNext(4, 0)", MISSING}, {"setNext(1, 4)", MISSING}, {"setNext(1, -1)", MISSING}, {"setNext(2, 1)", UNSUPPORTED},
        {"setOutput(4, true)", MISSING}, {"setOutput(-1, false)", MISSING}, {"setPhase(4, 1)", MISSING},
        {"setPhase(3, 4)", ILLEGAL}, {"setPhase(3, -1)", ILLEGAL}, {"signal(4, 0)", MISSING}, {"signal(0, 7)", ILLEGAL},
        {"signal(0, -1)", ILLEGAL}, {"range(4, true)", MISSING}, {"range(-1, false)", MISSING}, {"demanded(4)", MISSING},
        {"width(4, true)", MISSING}, {"width(-1, false)", MISSING}, {"isSigned(4)", MISSING}, {"cost(4)", MISSING},
        {"total(5)", ILLEGAL}, {"total(-1)", ILLEGAL}, {"unit(2, 0)", MISSING}, {"unit(-1, 0)", MISSING},
        {"unit(0, 5)", ILLEGAL}, {"unit(0, -1)", ILLEGAL}, {"unitOf(4)", MISSING}, {"unitOf(0)", NO_ELEMENT},
        {"setInput(4, 0)", MISSING}, {"setInput(1, 0)", UNSUPPORTED}, {"setInput(0, 13)", ILLEGAL},
        {"setInput(0, -4)", ILLEGAL}, {"run(0)", ILLEGAL}, {"run(201)", ILLEGAL}, {"value(4, false)", MISSING},
        {"value(-1, true)", MISSING}, {"fault(-1, 0)", ILLEGAL}, {"fault(0, 2)", ILLEGAL}, {"fault(3, 0)", NO_ELEMENT},
    };

    /** Two exceptions or more at once; the one documented first is due. */
    private static final String[][] SEVERAL = {
        {"add(13, 99, 99, 99)", ILLEGAL}, {"add(9, 4, 16, 0)", ILLEGAL}, {"add(10, -1, -1, 0)", ILLEGAL},
        {"setNext(2, 4)", MISSING}, {"setNext(0, -1)", MISSING}, {"setNext(4, 4)", MISSING},
        {"setPhase(4, 4)", MISSING}, {"setPhase(-1, -1)", MISSING}, {"signal(4, 7)", MISSING}, {"signal(-1, -1)", MISSING},
        {"unit(2, 5)", MISSING}, {"unit(-1, -1)", MISSING}, {"setInput(4, 4096)", MISSING}, {"setInput(-1, MIN)", MISSING},
        {"setInput(1, 4096)", UNSUPPORTED}, {"setInput(2, MAX)", UNSUPPORTED}, {"fault(-1, 2)", ILLEGAL},
        {"fault(3, 2)", ILLEGAL}, {"fault(MAX, -1)", ILLEGAL},
    };

    /** With 24 signals, of which the last one is a register. */
    private static final String[][] FULL = {
        {"add(1, 0, 0, 0)", STATE}, {"add(12, 23, 22, 21)", STATE}, {"add(13, 0, 0, 0)", ILLEGAL},
        {"add(-1, 24, 24, 24)", ILLEGAL}, {"add(0, 1, 0, 0)", ILLEGAL}, {"add(1, 4096, 0, 0)", ILLEGAL},
        {"add(2, -4097, 0, 0)", ILLEGAL}, {"add(9, 0, 16, 0)", ILLEGAL}, {"add(9, 24, 16, 0)", ILLEGAL},
        {"add(9, 24, 0, 0)", MISSING}, {"add(3, 24, 0, 0)", MISSING}, {"add(3, 0, 24, 0)", MISSING},
        {"add(12, 0, 0, 24)", MISSING}, {"add(3, -1, 0, 0)", MISSING},
    };

    public static void main(String[] args) {
        each("each exception alone", STANDING, ALONE);
        each("the one that is documented first", STANDING, SEVERAL);
        each("with 24 signals", EdgeCircuitTest.filledUp(0, 23) + """
            add(2, 7, 0, 0) = 23
            setNext(23, 5) = 23
            setOutput(23, true) = false
            run(3) = 0
            """, FULL);
        Script.run("each exception of an empty circuit", """
            run(3) = 0
            text("k5;r") = 4
            ! removeLast() = throws.NoSuchElementException
            ! share() = throws.ArithmeticException
            ! restoreSnapshot() = throws.IllegalStateException
            ! fault(0, 0) = throws.NoSuchElementException
            ! unit(0, 0) = throws.IndexOutOfBoundsException
            ! unitOf(0) = throws.IndexOutOfBoundsException
            restart() = 3
            """);
        Script.run("a full input", STANDING + "text(\"" + "0".repeat(76) + "\") = 80\n! feed('0') = " + STATE + "\n");
        Script.run("many refused calls in a row", STANDING + inARow(ALONE) + inARow(SEVERAL) + """
            count() = 4
            value(1, false) = 143
            value(1, true) = 143
            restart() = 7
            feed('5') = 5
            read() = 2
            restoreSnapshot() = 4
            value(0, false) = 7
            restart() = 4
            """);
        Script.finish();
    }

    private static void each(String name, String standing, String[][] rows) {
        for (String[] row : rows) {
            Script.run(name, standing + "! " + row[0] + " = " + row[1] + "\n");
        }
    }

    private static String inARow(String[][] rows) {
        StringBuilder lines = new StringBuilder();
        for (String[] row : rows) {
            lines.append(row[0]).append(" = ").append(row[1]).append('\n');
        }
        return lines.toString();
    }
}
