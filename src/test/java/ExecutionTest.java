/** Promises 21 to 24: both machines. */
public final class ExecutionTest {
    public static void main(String[] args) {
        setInput();
        run();
        valueOfAllKinds();
        narrowedValues();
        restart();
        Script.finish();
    }

    private static void setInput() {
        Script.run("promise 21", """
            add(0, -3, 12, 0) = 0
            add(1, 4, 0, 0) = 1
            add(2, 4, 0, 0) = 2
            value(0, false) = -3
            setInput(0, 12) = -3
            setInput(0, -3) = 12
            ! setInput(0, 13) = throws.IllegalArgumentException
            ! setInput(0, -4) = throws.IllegalArgumentException
            ! setInput(1, 4) = throws.UnsupportedOperationException
            setInput(2, 4) = throws.UnsupportedOperationException
            setInput(2, 9999) = throws.UnsupportedOperationException
            ! setInput(3, 0) = throws.IndexOutOfBoundsException
            setInput(-1, 9999) = throws.IndexOutOfBoundsException
            run(2) = 0
            setInput(0, 5) = -3
            restart() = 2
            value(0, false) = 5
            """);
    }

    private static void run() {
        Script.run("promise 22: registers take over at the same time", """
            add(2, 1, 0, 0) = 0
            add(2, 2, 0, 0) = 1
            add(2, 3, 0, 0) = 2
            setNext(0, 1) = 0
            setNext(1, 2) = 1
            setNext(2, 0) = 2
            setOutput(0, true) = false
            run(1) = 0
            value(0, false) = 2
            value(1, false) = 3
            value(2, false) = 1
            value(0, true) = 2
            value(1, true) = 3
            value(2, true) = 1
            run(1) = 0
            value(0, false) = 3
            value(2, true) = 2
            run(200) = 0
            value(0, false) = 2
            ! run(0) = throws.IllegalArgumentException
            ! run(201) = throws.IllegalArgumentException
            run(-1) = throws.IllegalArgumentException
            restart() = 202
            """);
        Script.run("promise 22: wrapping around in the full machine", """
            add(2, 3, 0, 0) = 0
            add(5, 0, 0, 0) = 1
            setNext(0, 1) = 0
            setOutput(0, true) = false
            run(1) = 0
            value(0, false) = 9
            run(4) = 0
            value(0, false) = -501334399
            value(0, true) = -501334399
            run(1) = 0
            value(0, false) = 2038349057
            value(1, false) = -1970898431
            """);
        Script.run("promise 22: no signals", """
            run(200) = 0
            run(7) = 0
            restart() = 207
            """);
    }

    private static void valueOfAllKinds() {
        String circuit = """
            add(0, -100, 100, 0) = 0
            add(0, -100, 100, 0) = 1
            add(3, 0, 1, 0) = 2
            add(4, 0, 1, 0) = 3
            add(5, 0, 1, 0) = 4
            add(6, 0, 1, 0) = 5
            add(7, 0, 1, 0) = 6
            add(8, 0, 1, 0) = 7
            add(9, 0, 4, 0) = 8
            add(10, 0, 2, 0) = 9
            add(11, 0, 1, 0) = 10
            add(12, 10, 0, 1) = 11
            add(11, 1, 0, 0) = 12
            add(12, 12, 0, 1) = 13
            add(11, 0, 0, 0) = 14
            setInput(0, -29) = -100
            setInput(1, 22) = -100
            """;
        String values = """
            value(0, false) = -29
            value(1, false) = 22
            value(2, false) = -7
            value(3, false) = -51
            value(4, false) = -638
            value(5, false) = 2
            value(6, false) = -9
            value(7, false) = -11
            value(8, false) = -464
            value(9, false) = -8
            value(10, false) = 1
            value(11, false) = -29
            value(12, false) = 0
            value(13, false) = 22
            value(14, false) = 0
            """;
        StringBuilder outputs = new StringBuilder();
        for (int i = 0; i < 15; i++) {
            outputs.append("setOutput(").append(i).append(", true) = false\n");
        }
        Script.run("promise 23: the full machine without outputs", circuit + values + """
            value(0, true) = 0
            value(4, true) = 0
            value(15, false) = throws.IndexOutOfBoundsException
            value(15, true) = throws.IndexOutOfBoundsException
            value(-1, false) = throws.IndexOutOfBoundsException
            """);
        Script.run("promise 23: outputs keep their values when narrowed",
                circuit + outputs + values + values.replace("false", "true") + "run(1) = 0\n");
    }

    private static void narrowedValues() {
        Script.run("promise 23: unsigned and signed narrowing", """
            add(0, -100, 100, 0) = 0
            add(1, 12, 0, 0) = 1
            add(6, 0, 1, 0) = 2
            add(0, -8, 7, 0) = 3
            add(3, 3, 3, 0) = 4
            add(1, -77, 0, 0) = 5
            add(2, -77, 0, 0) = 6
            setOutput(2, true) = false
            setOutput(4, true) = false
            setInput(0, -1) = -100
            value(0, true) = 15
            value(0, false) = -1
            value(1, true) = 12
            value(2, true) = 12
            value(3, true) = -8
            value(4, true) = -16
            value(5, true) = 0
            value(6, true) = 0
            setOutput(5, true) = false
            setOutput(6, true) = false
            value(5, true) = -77
            value(6, true) = -77
            setOutput(3, true) = false
            isSigned(3) = true
            isSigned(0) = false
            """);
        Script.run("promise 23: a register of lower bits", """
            add(2, -1, 0, 0) = 0
            add(1, 5, 0, 0) = 1
            add(3, 0, 1, 0) = 2
            add(1, 7, 0, 0) = 3
            add(6, 0, 3, 0) = 4
            setNext(0, 2) = 0
            setOutput(4, true) = false
            width(0, false) = 3
            value(0, false) = -1
            value(0, true) = 7
            run(2) = 0
            value(0, false) = 9
            value(0, true) = 1
            value(2, false) = 14
            value(2, true) = 6
            value(4, true) = 1
            """);
    }

    private static void restart() {
        String circuit = """
            add(0, 1, 9, 0) = 0
            add(2, 100, 0, 0) = 1
            add(3, 0, 1, 0) = 2
            setNext(1, 2) = 1
            setOutput(1, true) = false
            setInput(0, 5) = 1
            run(10) = 0
            run(3) = 0
            value(1, false) = 165
            value(1, true) = 165
            """;
        Script.run("promise 24", circuit + """
            restart() = 13
            value(0, false) = 5
            value(1, false) = 100
            value(1, true) = 100
            restart() = 0
            """);
        String[] calls = {
            "add(1, 0, 0, 0) = 3", "removeLast() = 3", "setNext(1, 2) = 2", "setOutput(0, false) = false",
            "setOutput(1, true) = true", "clear() = 3", "text(\"o0\") = 2\nread() = 1",
        };
        for (String call : calls) {
            Script.run("promise 24: restart by " + call, circuit + call + "\nrestart() = 0\n"
                    + (call.startsWith("clear") ? "" : "value(1, false) = 100\nvalue(1, true) = 100\n"));
        }
        String[] others = {
            "add(1, 9999, 0, 0) = throws.IllegalArgumentException",
            "add(3, 3, 0, 0) = throws.IndexOutOfBoundsException",
            "setNext(0, 0) = throws.UnsupportedOperationException",
            "setOutput(3, true) = throws.IndexOutOfBoundsException", "setPhase(1, 1) = 0",
            "setInput(0, 5) = 5", "text(\"k5;o9\") = 5\nread() = -1", "read() = -1", "saveSnapshot() = 3",
            "restoreSnapshot() = throws.IllegalStateException", "run(0) = throws.IllegalArgumentException",
            "range(1, true) = 2147483647", "total(0) = 160", "units() = 1",
        };
        for (String call : others) {
            Script.run("promise 24: no restart by " + call, circuit + call
                    + "\nvalue(1, false) = 165\nvalue(1, true) = 165\nrestart() = 13\n");
        }
    }
}
