import java.util.ArrayList;
import java.util.List;

/** The boundary cases of promises 28 and 29: no snapshot, an empty one, a full one, and what is not in it. */
public final class EdgeSnapshotTest {
    private static final String STANDING = """
            add(0, -3, 12, 0) = 0
            add(2, 100, 0, 0) = 1
            add(3, 0, 1, 0) = 2
            add(1, 63, 0, 0) = 3
            add(6, 1, 3, 0) = 4
            add(5, 0, 0, 0) = 5
            add(12, 0, 5, 4) = 6
            setNext(1, 2) = 1
            setOutput(4, true) = false
            setOutput(6, true) = false
            setPhase(5, 3) = 0
            setInput(0, 12) = -3
            run(9) = 0
            """;

    public static void main(String[] args) {
        noSnapshot();
        emptyCircuit();
        fullCircuit();
        allIsRestored();
        latestSnapshot();
        notInTheSnapshot();
        Script.finish();
    }

    private static void noSnapshot() {
        Script.run("29: no snapshot was saved", "! restoreSnapshot() = throws.IllegalStateException\n");
        Script.run("29: no snapshot was saved, with signals", STANDING
                + "! restoreSnapshot() = throws.IllegalStateException\nvalue(1, false) = 208\nrestart() = 9\n");
        Script.run("29: clear saves none", """
            add(1, 7, 0, 0) = 0
            clear() = 1
            ! restoreSnapshot() = throws.IllegalStateException
            """);
        Script.run("29: the first snapshot ends this", """
            restoreSnapshot() = throws.IllegalStateException
            saveSnapshot() = 0
            restoreSnapshot() = 0
            restoreSnapshot() = 0
            """);
    }

    private static void emptyCircuit() {
        Script.run("28: a snapshot of an empty circuit is one", """
            saveSnapshot() = 0
            add(1, 7, 0, 0) = 0
            restoreSnapshot() = 0
            count() = 0
            rounds() = 1
            ! value(0, false) = throws.IndexOutOfBoundsException
            """);
        Script.run("28: cycles of an empty circuit", """
            run(7) = 0
            saveSnapshot() = 0
            run(200) = 0
            restoreSnapshot() = 0
            restart() = 7
            """);
    }

    private static void fullCircuit() {
        Script.run("28: a snapshot of 24 signals", EdgeCircuitTest.filledUp(0, 24) + """
            saveSnapshot() = 24
            clear() = 24
            restoreSnapshot() = 24
            signal(0, 1) = 0
            signal(23, 1) = 23
            ! add(1, 0, 0, 0) = throws.IllegalStateException
            removeLast() = 1
            restoreSnapshot() = 24
            count() = 24
            """);
        Script.run("29: fewer signals than now, and then more again", EdgeCircuitTest.filledUp(0, 2) + """
            saveSnapshot() = 2
            """ + EdgeCircuitTest.filledUp(2, 24) + """
            restoreSnapshot() = 2
            ! signal(2, 0) = throws.IndexOutOfBoundsException
            add(2, 5, 0, 0) = 2
            signal(2, 4) = 2
            signal(2, 5) = 0
            signal(2, 6) = 0
            """);
    }

    private static void allIsRestored() {
        String[] changes = {
            "clear() = 7\n", "removeLast() = 12\n", "add(2, 5, 0, 0) = 7\nsetOutput(7, true) = false\n",
            "setNext(1, 0) = 2\n", "setOutput(4, false) = true\n", "setOutput(0, true) = false\n", "setPhase(5, 1) = 3\n",
            "setPhase(0, 1) = 0\n", "setInput(0, -3) = 12\n", "run(200) = 0\n", "restart() = 9\n", "restart() = 9\nrun(9) = 0\n",
            "text(\"o0;n1:0\") = 7\nread() = 2\n", "", "removeLast() = 12\nremoveLast() = 5\nadd(0, 3, 4, 0) = 5\nrun(1) = 0\n",
            "removeLast() = 12\nadd(12, 1, 2, 3) = 6\nsetOutput(6, true) = false\n",
        };
        String due = Probe.after(Script.callsOf("28: the state as saved", STANDING + "saveSnapshot() = 7\n"));
        for (String change : changes) {
            List<Call> calls = new ArrayList<>(Script.callsOf("29: behind " + change,
                    STANDING + "saveSnapshot() = 7\n" + change + "restoreSnapshot() = 7\n"));
            if (!Probe.after(calls).equals(due)) {
                Script.report("29: not all is restored behind " + change);
            }
            calls.add(new Call("run", 3));
            calls.add(new Call("restoreSnapshot"));
            if (!Probe.after(calls).equals(due)) {
                Script.report("29: the snapshot is not kept behind " + change);
            }
        }
    }

    private static void latestSnapshot() {
        Script.run("28: in place of an earlier snapshot", STANDING + """
            saveSnapshot() = 7
            removeLast() = 12
            saveSnapshot() = 6
            clear() = 6
            saveSnapshot() = 0
            add(1, 7, 0, 0) = 0
            restoreSnapshot() = 0
            count() = 0
            """);
        Script.run("28: a snapshot is not changed by what is done to the circuit", STANDING + """
            saveSnapshot() = 7
            restoreSnapshot() = 7
            setInput(0, 0) = 12
            run(5) = 0
            setPhase(5, 0) = 3
            restoreSnapshot() = 7
            value(0, false) = 12
            value(1, false) = 208
            value(1, true) = 16
            signal(5, 6) = 3
            restart() = 9
            """);
    }

    private static void notInTheSnapshot() {
        Script.run("29: the input stays, even one of 80 characters", "saveSnapshot() = 0\ntext(\"" + "0".repeat(80)
                + "\") = 80\nrestoreSnapshot() = 0\n! feed('0') = throws.IllegalStateException\n");
        Script.run("29: an empty input stays empty", """
            text("k5") = 2
            saveSnapshot() = 0
            read() = 1
            restoreSnapshot() = 0
            feed('k') = 1
            """);
        Script.run("29: the faults stay", """
            text("o9") = 2
            read() = -1
            saveSnapshot() = 0
            read() = -1
            restoreSnapshot() = 0
            fault(1, 0) = 2
            ! fault(2, 0) = throws.NoSuchElementException
            """);
    }
}
