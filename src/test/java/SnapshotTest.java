/** Promises 28 and 29: the snapshot. */
public final class SnapshotTest {
    public static void main(String[] args) {
        String circuit = """
            add(0, 1, 9, 0) = 0
            add(2, 100, 0, 0) = 1
            add(3, 0, 1, 0) = 2
            setNext(1, 2) = 1
            setOutput(1, true) = false
            setPhase(2, 3) = 0
            setInput(0, 5) = 1
            run(6) = 0
            """;
        String asSaved = """
            count() = 3
            signal(0, 2) = 9
            signal(1, 4) = 2
            signal(0, 5) = 0
            signal(1, 5) = 1
            signal(2, 0) = 3
            signal(2, 6) = 3
            rounds() = 29
            demanded(0) = 15
            units() = 1
            value(0, false) = 5
            value(1, false) = 130
            value(1, true) = 130
            value(2, true) = 135
            """;
        Script.run("promises 28 and 29: all is restored, more than once", circuit + """
            saveSnapshot() = 3
            """ + asSaved + """
            setInput(0, 9) = 5
            run(7) = 0
            setNext(1, 0) = 2
            setOutput(0, true) = false
            setOutput(1, false) = true
            setPhase(2, 1) = 3
            add(1, 7, 0, 0) = 3
            run(2) = 0
            restoreSnapshot() = 3
            """ + asSaved + """
            clear() = 3
            add(5, 0, 0, 0) = throws.IndexOutOfBoundsException
            add(1, -7, 0, 0) = 0
            restoreSnapshot() = 3
            """ + asSaved + """
            run(1) = 0
            value(1, false) = 135
            """);
        Script.run("promise 29: all operands", """
            add(1, 1, 0, 0) = 0
            add(1, 2, 0, 0) = 1
            add(1, 3, 0, 0) = 2
            add(12, 1, 0, 2) = 3
            saveSnapshot() = 4
            removeLast() = 12
            add(12, 2, 1, 1) = 3
            restoreSnapshot() = 4
            signal(3, 1) = 1
            signal(3, 2) = 0
            signal(3, 3) = 2
            """);
        Script.run("promise 29: the number of cycles belongs to the state", circuit + """
            saveSnapshot() = 3
            restart() = 6
            run(9) = 0
            restoreSnapshot() = 3
            restart() = 6
            restoreSnapshot() = 3
            run(4) = 0
            restart() = 10
            """);
        Script.run("promise 28: in place of an earlier snapshot, also of an empty circuit", circuit + """
            saveSnapshot() = 3
            clear() = 3
            saveSnapshot() = 0
            add(1, 7, 0, 0) = 0
            restoreSnapshot() = 0
            count() = 0
            add(1, 7, 0, 0) = 0
            saveSnapshot() = 1
            clear() = 1
            restoreSnapshot() = 1
            value(0, false) = 7
            """);
        Script.run("promise 29: neither the input nor the faults are restored", """
            saveSnapshot() = 0
            text("o0") = 2
            read() = -1
            text("k5") = 2
            restoreSnapshot() = 0
            fault(2, 0) = 5
            feed('7') = 3
            read() = 1
            signal(0, 1) = 57
            """);
        Script.run("promise 29: no snapshot", """
            add(1, 7, 0, 0) = 0
            ! restoreSnapshot() = throws.IllegalStateException
            saveSnapshot() = 1
            ! restoreSnapshot() = 1
            """);
        Script.finish();
    }
}
