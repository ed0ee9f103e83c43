/** The document's three examples. */
public final class ExamplesTest {
    public static void main(String[] args) {
        Script.run("widths by ranges", """
            add(0, 0, 9, 0) = 0
            add(3, 0, 0, 0) = 1
            setOutput(1, true) = false
            range(1, true) = 18
            width(1, false) = 5
            setInput(0, 7) = 0
            value(1, true) = 14
            """);
        Script.run("widths by what is demanded", """
            add(0, -5, 100, 0) = 0
            add(1, 3, 0, 0) = 1
            add(6, 0, 1, 0) = 2
            setOutput(2, true) = false
            demanded(0) = 3
            width(0, true) = 8
            width(0, false) = 2
            setInput(0, 6) = -5
            value(0, true) = 2
            value(2, true) = 2
            """);
        Script.run("a text with a fault", """
            feed('0') = 1
            feed('+') = 2
            feed('0') = 3
            read() = -1
            fault(0, 0) = 1
            fault(1, 0) = 3
            fault(2, 0) = 5
            """);
        Script.finish();
    }
}
