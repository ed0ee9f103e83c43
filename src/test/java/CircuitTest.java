/** Promises 1 to 9: the circuit. */
public final class CircuitTest {
    public static void main(String[] args) {
        Script.run("promise 1: a new object is empty", """
            count() = 0
            units() = 0
            rounds() = 1
            total(0) = 0
            total(4) = 0
            signal(0, 0) = throws.IndexOutOfBoundsException
            fault(0, 0) = throws.NoSuchElementException
            restoreSnapshot() = throws.IllegalStateException
            restart() = 0
            feed('k') = 1
            """);
        addOperands();
        addExceptions();
        removeLast();
        setNext();
        outputsAndPhases();
        signalAndCount();
        clear();
        Script.finish();
    }

    private static void addOperands() {
        Script.run("promise 2: operands of all kinds, those without meaning are 0", """
            add(0, -4096, 4095, 7) = 0
            add(1, -4096, 99, 99) = 1
            add(2, 4095, 99, -99) = 2
            add(9, 0, 15, 99) = 3
            add(10, 1, 0, 99) = 4
            add(12, 2, 1, 0) = 5
            add(3, 5, 4, 99) = 6
            add(4, 6, 5, 99) = 7
            add(5, 6, 6, 99) = 8
            add(6, 0, 1, -1) = 9
            add(7, 0, 2, -1) = 10
            add(8, 0, 3, -1) = 11
            add(11, 0, 4, -1) = 12
            add(0, 5, 5, 0) = 13
            signal(0, 0) = 0
            signal(0, 1) = -4096
            signal(0, 2) = 4095
            signal(0, 3) = 0
            signal(1, 1) = -4096
            signal(1, 2) = 0
            signal(1, 3) = 0
            signal(2, 1) = 4095
            signal(2, 2) = 0
            signal(2, 3) = 0
            signal(3, 1) = 0
            signal(3, 2) = 15
            signal(3, 3) = 0
            signal(4, 1) = 1
            signal(4, 2) = 0
            signal(4, 3) = 0
            signal(5, 1) = 2
            signal(5, 2) = 1
            signal(5, 3) = 0
            signal(6, 0) = 3
            signal(6, 1) = 5
            signal(6, 2) = 4
            signal(6, 3) = 0
            signal(12, 0) = 11
            signal(12, 2) = 4
            signal(12, 3) = 0
            count() = 14
            """);
    }

    private static void addExceptions() {
        Script.run("promise 2: wrong operands", """
            add(0, 0, 9, 0) = 0
            ! add(-1, 0, 0, 0) = throws.IllegalArgumentException
            ! add(13, 0, 0, 0) = throws.IllegalArgumentException
            add(0, -4097, 0, 0) = throws.IllegalArgumentException
            add(0, 0, 4096, 0) = throws.IllegalArgumentException
            add(0, 4096, 4096, 0) = throws.IllegalArgumentException
            add(0, -4098, -4097, 0) = throws.IllegalArgumentException
            add(0, 3, 2, 0) = throws.IllegalArgumentException
            add(1, -4097, 0, 0) = throws.IllegalArgumentException
            add(1, 4096, 0, 0) = throws.IllegalArgumentException
            add(2, -4097, 0, 0) = throws.IllegalArgumentException
            add(2, 4096, 0, 0) = throws.IllegalArgumentException
            add(9, 0, -1, 0) = throws.IllegalArgumentException
            add(9, 0, 16, 0) = throws.IllegalArgumentException
            add(10, 0, -1, 0) = throws.IllegalArgumentException
            add(10, 0, 16, 0) = throws.IllegalArgumentException
            add(3, 1, 0, 0) = throws.IndexOutOfBoundsException
            add(3, 0, 1, 0) = throws.IndexOutOfBoundsException
            add(11, -1, 0, 0) = throws.IndexOutOfBoundsException
            add(8, 0, -1, 0) = throws.IndexOutOfBoundsException
            add(12, 1, 0, 0) = throws.IndexOutOfBoundsException
            add(12, 0, 1, 0) = throws.IndexOutOfBoundsException
            add(12, 0, 0, 1) = throws.IndexOutOfBoundsException
            add(12, 0, 0, -2147483648) = throws.IndexOutOfBoundsException
            add(9, 1, 0, 0) = throws.IndexOutOfBoundsException
            add(10, 2147483647, 0, 0) = throws.IndexOutOfBoundsException
            # The constant comes before the signal, although it is the later operand.
            add(9, 7, 16, 0) = throws.IllegalArgumentException
            add(10, -1, -1, 0) = throws.IllegalArgumentException
            add(13, 99, 99, 99) = throws.IllegalArgumentException
            ! add(12, 0, 0, 1) = throws.IndexOutOfBoundsException
            count() = 1
            """);
        StringBuilder full = new StringBuilder();
        for (int i = 0; i < 24; i++) {
            full.append("add(2, ").append(i).append(", 0, 0) = ").append(i).append('\n');
        }
        Script.run("promise 2: 24 signals", full + """
            add(1, 4096, 0, 0) = throws.IllegalArgumentException
            add(3, 24, 0, 0) = throws.IndexOutOfBoundsException
            add(9, 24, 16, 0) = throws.IllegalArgumentException
            run(3) = 0
            add(3, 23, 0, 0) = throws.IllegalStateException
            restart() = 3
            add(1, 0, 0, 0) = throws.IllegalStateException
            count() = 24
            signal(23, 1) = 23
            removeLast() = 2
            add(12, 22, 22, 22) = 23
            """);
    }

    private static void removeLast() {
        Script.run("promise 3", """
            removeLast() = throws.NoSuchElementException
            add(2, 1, 0, 0) = 0
            add(2, 2, 0, 0) = 1
            add(2, 3, 0, 0) = 2
            add(3, 0, 1, 0) = 3
            setNext(0, 3) = 0
            setNext(1, 2) = 1
            setNext(2, 3) = 2
            setOutput(3, true) = false
            setPhase(3, 2) = 0
            removeLast() = 3
            count() = 3
            signal(0, 4) = 0
            signal(1, 4) = 2
            signal(2, 4) = 2
            signal(3, 0) = throws.IndexOutOfBoundsException
            # What the number had before is forgotten.
            add(0, 5, 6, 0) = 3
            signal(3, 5) = 0
            signal(3, 6) = 0
            value(3, false) = 5
            removeLast() = 0
            removeLast() = 2
            signal(1, 4) = 1
            removeLast() = 2
            removeLast() = 2
            ! removeLast() = throws.NoSuchElementException
            """);
    }

    private static void setNext() {
        Script.run("promise 4", """
            add(2, 1, 0, 0) = 0
            add(0, 0, 9, 0) = 1
            add(3, 0, 1, 0) = 2
            setNext(0, 2) = 0
            signal(0, 4) = 2
            setNext(0, 1) = 2
            setNext(0, 0) = 1
            signal(0, 4) = 0
            ! setNext(0, 3) = throws.IndexOutOfBoundsException
            ! setNext(0, -1) = throws.IndexOutOfBoundsException
            setNext(3, 0) = throws.IndexOutOfBoundsException
            setNext(-1, 0) = throws.IndexOutOfBoundsException
            ! setNext(1, 2) = throws.UnsupportedOperationException
            setNext(2, 0) = throws.UnsupportedOperationException
            setNext(1, 3) = throws.IndexOutOfBoundsException
            signal(1, 4) = -1
            """);
    }

    private static void outputsAndPhases() {
        Script.run("promise 5", """
            add(0, 0, 9, 0) = 0
            setOutput(0, false) = false
            setOutput(0, true) = false
            signal(0, 5) = 1
            setOutput(0, true) = true
            setOutput(0, false) = true
            signal(0, 5) = 0
            demanded(0) = 0
            ! setOutput(1, true) = throws.IndexOutOfBoundsException
            ! setOutput(-1, true) = throws.IndexOutOfBoundsException
            """);
        Script.run("promise 6", """
            add(0, 0, 9, 0) = 0
            run(4) = 0
            setPhase(0, 3) = 0
            signal(0, 6) = 3
            setPhase(0, 1) = 3
            ! setPhase(0, 4) = throws.IllegalArgumentException
            ! setPhase(0, -1) = throws.IllegalArgumentException
            ! setPhase(1, 0) = throws.IndexOutOfBoundsException
            setPhase(1, 4) = throws.IndexOutOfBoundsException
            setPhase(-1, 4) = throws.IndexOutOfBoundsException
            setPhase(0, 0) = 1
            # A phase is no reason for a restart.
            restart() = 4
            """);
    }

    private static void signalAndCount() {
        Script.run("promises 7 and 8", """
            add(2, -7, 0, 0) = 0
            count() = 1
            add(1, 12, 0, 0) = 1
            count() = 2
            add(12, 0, 1, 0) = 2
            signal(2, 0) = 12
            signal(2, 1) = 0
            signal(2, 2) = 1
            signal(2, 3) = 0
            signal(2, 4) = -1
            signal(2, 5) = 0
            signal(2, 6) = 0
            signal(1, 0) = 1
            signal(1, 1) = 12
            signal(1, 4) = -1
            signal(0, 0) = 2
            signal(0, 1) = -7
            signal(0, 4) = 0
            ! signal(0, -1) = throws.IllegalArgumentException
            ! signal(0, 7) = throws.IllegalArgumentException
            ! signal(3, 0) = throws.IndexOutOfBoundsException
            signal(3, 7) = throws.IndexOutOfBoundsException
            signal(-1, -1) = throws.IndexOutOfBoundsException
            count() = 3
            """);
    }

    private static void clear() {
        Script.run("promise 9", """
            clear() = 0
            add(0, 0, 9, 0) = 0
            add(2, 5, 0, 0) = 1
            setOutput(1, true) = false
            setPhase(1, 3) = 0
            setInput(0, 4) = 0
            saveSnapshot() = 2
            text("o9") = 2
            read() = -1
            text("k5;r") = 4
            clear() = 2
            count() = 0
            rounds() = 1
            total(1) = 0
            # The input, the faults and the snapshot stay.
            fault(2, 0) = 5
            feed('7') = 5
            read() = 2
            signal(1, 1) = 7
            signal(1, 5) = 0
            signal(1, 6) = 0
            clear() = 2
            restoreSnapshot() = 2
            value(0, false) = 4
            value(1, true) = 5
            """);
    }
}
