/** The boundary cases of promises 21 to 24: "Cycles" and the values of "Narrowing" in the description. */
public final class EdgeExecutionTest {
    private static final String REFUSED = " = throws.IllegalArgumentException\n";
    private static final String MISSING = " = throws.IndexOutOfBoundsException\n";

    public static void main(String[] args) {
        inputs();
        inputsInBothMachines();
        cycles();
        sameTime();
        sumsThatWrapAround();
        productsThatWrapAround();
        shiftsThatWrapAround();
        registersThatWrapAround();
        narrowedToNothing();
        narrowedAtTheSign();
        values();
        restart();
        restartByOthers();
        noRestart();
        mostCalls();
        Script.finish();
    }

    private static void inputs() {
        String three = "add(0, -3, 12, 0) = 0\nadd(1, 4, 0, 0) = 1\nadd(2, 4, 0, 0) = 2\n";
        Script.run("21: an input has the value a at first, and takes both ends of its range", three + """
            value(0, false) = -3
            setInput(0, 12) = -3
            value(0, false) = 12
            setInput(0, -3) = 12
            value(0, false) = -3
            """);
        for (String wrong : new String[] {"-4", "13", "4096", "-4097", "MIN", "MAX"}) {
            Script.run("21: the value is not in its range", three + "setInput(0, 5) = -3\n! setInput(0, " + wrong + ")"
                    + REFUSED + "value(0, false) = 5\n");
        }
        Script.run("21: an input of one value", """
            add(0, 7, 7, 0) = 0
            setInput(0, 7) = 7
            ! setInput(0, 6) = throws.IllegalArgumentException
            ! setInput(0, 8) = throws.IllegalArgumentException
            """);
        Script.run("21: the widest input", """
            add(0, -4096, 4095, 0) = 0
            setInput(0, 4095) = -4096
            setInput(0, -4096) = 4095
            ! setInput(0, 4096) = throws.IllegalArgumentException
            ! setInput(0, -4097) = throws.IllegalArgumentException
            """);
        for (int kind = 1; kind <= 12; kind++) {
            Script.run("21: kind " + kind + " is no input, which comes before a wrong value", "add(0, 0, 1, 0) = 0\nadd("
                    + kind + ", 0, 0, 0) = 1\n! setInput(1, 0) = throws.UnsupportedOperationException\n"
                    + "! setInput(1, MAX) = throws.UnsupportedOperationException\n");
        }
        for (String wrong : new String[] {"-1", "3", "24", "MIN", "MAX"}) {
            Script.run("21: there is no such signal", three + "! setInput(" + wrong + ", 0)" + MISSING);
            Script.run("21: no such signal comes before a wrong value", three + "! setInput(" + wrong + ", 13)" + MISSING);
        }
    }

    private static void inputsInBothMachines() {
        Script.run("21: the value is set for both machines, and narrowed in one", """
            add(0, -8, 7, 0) = 0
            add(1, 3, 0, 0) = 1
            add(6, 0, 1, 0) = 2
            setOutput(2, true) = false
            width(0, false) = 2
            value(0, false) = -8
            value(0, true) = 0
            setInput(0, -1) = -8
            value(0, false) = -1
            value(0, true) = 3
            setInput(0, 4) = -1
            value(0, true) = 0
            # The previous value is the full one, although the narrowed machine has 0.
            setInput(0, 4) = 4
            """);
    }

    private static void cycles() {
        String counter = "add(2, 0, 0, 0) = 0\nadd(1, 1, 0, 0) = 1\nadd(3, 0, 1, 0) = 2\nsetNext(0, 2) = 0\n"
                + "setOutput(0, true) = false\n";
        Script.run("22: from 1 to 200 cycles", counter + """
            run(1) = 0
            value(0, false) = 1
            value(0, true) = 1
            run(200) = 0
            value(0, false) = 201
            value(0, true) = 201
            run(199) = 0
            value(0, false) = 400
            restart() = 400
            """);
        for (String wrong : new String[] {"0", "-1", "201", "MIN", "MAX"}) {
            Script.run("22: not from 1 to 200 cycles", counter + "run(7) = 0\n! run(" + wrong + ")" + REFUSED
                    + "value(0, false) = 7\nrestart() = 7\n");
            Script.run("22: not from 1 to 200 cycles, without signals", "! run(" + wrong + ")" + REFUSED);
        }
        Script.run("22: without signals, without registers, without outputs", """
            run(200) = 0
            add(0, 0, 9, 0) = 0
            run(200) = 0
            add(2, 5, 0, 0) = 1
            run(200) = 0
            value(1, false) = 5
            restart() = 200
            """);
    }

    private static void sameTime() {
        Script.run("22: all registers take over at the same time, in both directions", """
            add(2, 1, 0, 0) = 0
            add(2, 2, 0, 0) = 1
            add(3, 0, 1, 0) = 2
            setNext(0, 1) = 0
            setNext(1, 0) = 1
            setOutput(0, true) = false
            setOutput(1, true) = false
            run(1) = 0
            value(0, false) = 2
            value(1, false) = 1
            value(0, true) = 2
            value(1, true) = 1
            run(199) = 0
            value(0, false) = 1
            value(1, false) = 2
            run(1) = 0
            value(0, true) = 2
            """);
        Script.run("22: the values before the cycle, of a signal that depends on a register", """
            add(2, 1, 0, 0) = 0
            add(2, 100, 0, 0) = 1
            add(3, 0, 0, 0) = 2
            setNext(0, 2) = 0
            setNext(1, 2) = 1
            setOutput(1, true) = false
            run(1) = 0
            value(0, false) = 2
            value(1, false) = 2
            value(2, false) = 4
            value(1, true) = 2
            """);
    }

    /** The same values are due in both machines, as all bits of an output are kept. */
    private static String inBoth(int signal, int due) {
        return "setOutput(" + signal + ", true) = false\nvalue(" + signal + ", false) = " + due + "\nvalue(" + signal
                + ", true) = " + due + "\nrun(1) = 0\n";
    }

    private static void wraps(String sentence, int kind, int a, int b, int due) {
        Script.run("23: " + sentence + ", kind " + kind + " of " + a + ", " + b, EdgeRangeTest.BIG + "add(" + kind + ", "
                + a + ", " + b + ", 0) = 10\n" + inBoth(10, due));
    }

    private static void sumsThatWrapAround() {
        wraps("the greatest int and 1", 3, 4, 0, Integer.MIN_VALUE);
        wraps("the least int and -1", 3, 7, 5, Integer.MAX_VALUE);
        wraps("twice the greatest int", 3, 4, 4, -2);
        wraps("twice the least int", 3, 7, 7, 0);
        wraps("2^30 and 2^30", 3, 2, 2, Integer.MIN_VALUE);
        wraps("both ends", 3, 4, 7, -1);
        wraps("the greatest int minus -1", 4, 4, 5, Integer.MIN_VALUE);
        wraps("the least int minus 1", 4, 7, 0, Integer.MAX_VALUE);
        wraps("the greatest int minus the least one", 4, 4, 7, -1);
        wraps("the least int minus the greatest one", 4, 7, 4, 1);
        wraps("-1 minus the least int", 4, 5, 7, Integer.MAX_VALUE);
        wraps("1 minus the least int", 4, 0, 7, -2147483647);
    }

    private static void productsThatWrapAround() {
        wraps("the least int and -1", 5, 7, 5, Integer.MIN_VALUE);
        wraps("the square of the greatest int", 5, 4, 4, 1);
        wraps("the square of the least int", 5, 7, 7, 0);
        wraps("both ends", 5, 4, 7, Integer.MIN_VALUE);
        wraps("the greatest int and -1", 5, 4, 5, -2147483647);
        wraps("the square of 2^30", 5, 2, 2, 0);
        wraps("the square of 2^30 - 1", 5, 3, 3, -2147483647);
        wraps("2^15 and 2^30", 5, 1, 2, 0);
    }

    private static void shiftsThatWrapAround() {
        wraps("2^30 by 1 to the left", 9, 2, 1, Integer.MIN_VALUE);
        wraps("2^30 by 2 to the left", 9, 2, 2, 0);
        wraps("the greatest int by 1 to the left", 9, 4, 1, -2);
        wraps("the greatest int by 15 to the left", 9, 4, 15, -32768);
        wraps("the least int by 1 to the left", 9, 7, 1, 0);
        wraps("the least int by 0 to the left", 9, 7, 0, Integer.MIN_VALUE);
        wraps("the least int by 15 to the right, with the sign", 10, 7, 15, -65536);
        wraps("-1 by 15 to the right, with the sign", 10, 5, 15, -1);
        wraps("the greatest int by 15 to the right", 10, 4, 15, 65535);
        wraps("1 by 1 to the right", 10, 0, 1, 0);
        wraps("the least int and the greatest one: less without wrapping around", 11, 7, 4, 1);
        wraps("the greatest int and the least one: not less", 11, 4, 7, 0);
        wraps("not less than itself", 11, 7, 7, 0);
        wraps("the ends, bit by bit", 6, 4, 7, 0);
        wraps("the ends, bit by bit", 7, 4, 7, -1);
        wraps("the ends, bit by bit", 8, 4, 7, -1);
        wraps("-1 and the greatest int", 8, 5, 4, Integer.MIN_VALUE);
    }

    private static void registersThatWrapAround() {
        Script.run("22: a register wraps around above and below", """
            add(2, 1, 0, 0) = 0
            add(3, 0, 0, 0) = 1
            setNext(0, 1) = 0
            add(2, -1, 0, 0) = 2
            add(3, 2, 2, 0) = 3
            setNext(2, 3) = 2
            setOutput(0, true) = false
            setOutput(2, true) = false
            run(30) = 0
            value(0, false) = 1073741824
            value(2, false) = -1073741824
            run(1) = 0
            value(0, false) = MIN
            value(0, true) = MIN
            value(2, false) = MIN
            value(2, true) = MIN
            run(1) = 0
            value(0, false) = 0
            value(0, true) = 0
            value(2, true) = 0
            """);
        Script.run("22: wrapping around in the full machine, while the narrowed one keeps the lowest bits", """
            add(2, 3, 0, 0) = 0
            add(5, 0, 0, 0) = 1
            setNext(0, 1) = 0
            add(1, 255, 0, 0) = 2
            add(6, 0, 2, 0) = 3
            setOutput(3, true) = false
            width(0, false) = 8
            run(6) = 0
            value(0, false) = 2038349057
            value(0, true) = 1
            value(3, false) = 1
            value(3, true) = 1
            run(194) = 0
            value(3, false) = 1
            """);
    }

    private static void narrowedToNothing() {
        Script.run("23: the value is 0 for the width 0", """
            add(0, 5, 9, 0) = 0
            add(1, -7, 0, 0) = 1
            add(2, 9, 0, 0) = 2
            add(11, 1, 0, 0) = 3
            add(8, 0, 1, 0) = 4
            value(0, true) = 0
            value(1, true) = 0
            value(2, true) = 0
            value(3, true) = 0
            value(4, true) = 0
            value(0, false) = 5
            value(1, false) = -7
            value(2, false) = 9
            value(3, false) = 1
            value(4, false) = -4
            run(200) = 0
            value(2, true) = 0
            value(2, false) = 9
            """);
    }

    private static void narrowedAtTheSign() {
        Script.run("23: the width of a signed range represents negative numbers", """
            add(0, -8, 7, 0) = 0
            setOutput(0, true) = false
            value(0, true) = -8
            setInput(0, -1) = -8
            value(0, true) = -1
            setInput(0, 7) = -1
            value(0, true) = 7
            setInput(0, 0) = 7
            value(0, true) = 0
            """);
        String lower = "add(0, -8, 7, 0) = 0\nadd(1, 7, 0, 0) = 1\nadd(6, 0, 1, 0) = 2\nsetOutput(2, true) = false\n"
                + "width(0, false) = 3\n";
        Script.run("23: one bit less represents no negative numbers", lower + """
            value(0, true) = 0
            setInput(0, -1) = -8
            value(0, true) = 7
            setInput(0, -4) = -1
            value(0, true) = 4
            setInput(0, 7) = -4
            value(0, true) = 7
            """);
        Script.run("23: the width 1, signed and unsigned", """
            add(0, -1, 0, 0) = 0
            add(0, 0, 1, 0) = 1
            add(1, -1, 0, 0) = 2
            setOutput(0, true) = false
            setOutput(1, true) = false
            setOutput(2, true) = false
            width(0, false) = 1
            width(1, false) = 1
            value(0, true) = -1
            value(1, true) = 0
            value(2, true) = -1
            setInput(0, 0) = -1
            setInput(1, 1) = 0
            value(0, true) = 0
            value(1, true) = 1
            """);
        Script.run("23: the widths 31 and 32", EdgeRangeTest.BIG + """
            setOutput(4, true) = false
            setOutput(7, true) = false
            width(4, false) = 31
            width(7, false) = 32
            value(4, true) = MAX
            value(7, true) = MIN
            """);
        Script.run("23: an initial value is narrowed as well", """
            add(2, -1, 0, 0) = 0
            add(1, 5, 0, 0) = 1
            add(6, 0, 1, 0) = 2
            add(1, -4096, 0, 0) = 3
            setNext(0, 3) = 0
            setOutput(2, true) = false
            width(0, false) = 3
            value(0, true) = 7
            value(0, false) = -1
            run(1) = 0
            value(0, true) = 0
            value(0, false) = -4096
            restart() = 1
            value(0, true) = 7
            """);
    }

    private static void values() {
        String two = "add(0, 1, 9, 0) = 0\nadd(2, 3, 0, 0) = 1\nvalue(0, false) = 1\nvalue(1, true) = 0\n";
        for (String wrong : new String[] {"-1", "2", "24", "MIN", "MAX"}) {
            Script.run("23: there is no such signal", two + "! value(" + wrong + ", false)" + MISSING
                    + "! value(" + wrong + ", true)" + MISSING);
        }
        Script.run("23: a choice by 0, by -1 and by 1", """
            add(0, -1, 1, 0) = 0
            add(1, 7, 0, 0) = 1
            add(1, 9, 0, 0) = 2
            add(12, 0, 1, 2) = 3
            setOutput(3, true) = false
            value(3, false) = 7
            value(3, true) = 7
            setInput(0, 0) = -1
            value(3, false) = 9
            value(3, true) = 9
            setInput(0, 1) = 0
            value(3, false) = 7
            value(3, true) = 7
            """);
    }

    private static void restart() {
        Script.run("24: no cycles passed", "restart() = 0\nrestart() = 0\n");
        Script.run("24: the cycles of all calls of run since then", """
            run(1) = 0
            restart() = 1
            restart() = 0
            run(200) = 0
            run(200) = 0
            run(1) = 0
            restart() = 401
            """);
        Script.run("24: a call of run that throws adds no cycles", """
            run(3) = 0
            ! run(201) = throws.IllegalArgumentException
            ! run(0) = throws.IllegalArgumentException
            restart() = 3
            """);
        Script.run("24: the inputs keep their values, at the ends of their ranges too", """
            add(0, -3, 12, 0) = 0
            setInput(0, 12) = -3
            run(1) = 0
            restart() = 1
            value(0, false) = 12
            setInput(0, -3) = 12
            """);
    }

    private static final String RUNNING = """
            add(0, 1, 9, 0) = 0
            add(2, 100, 0, 0) = 1
            add(3, 0, 1, 0) = 2
            setNext(1, 2) = 1
            setOutput(1, true) = false
            setInput(0, 9) = 1
            run(5) = 0
            value(1, false) = 145
            value(1, true) = 145
            """;

    private static void restartByOthers() {
        String[] calls = {
            "add(0, 0, 0, 0) = 3", "add(12, 0, 1, 2) = 3", "removeLast() = 3", "setNext(1, 2) = 2", "setNext(1, 1) = 2",
            "setOutput(1, true) = true", "setOutput(1, false) = true", "setOutput(0, false) = false",
            "text(\"o1\") = 2\nread() = 1", "text(\"k5\") = 2\nread() = 1", "text(\"n1:2\") = 4\nread() = 1",
        };
        for (String call : calls) {
            Script.run("24: a restart, even if nothing else changes: " + call, RUNNING + call + """

                value(1, false) = 100
                value(0, false) = 9
                restart() = 0
                """);
        }
        Script.run("24: a restart by clear", RUNNING + "clear() = 3\nrestart() = 0\n");
        Script.run("24: a restart by clear without signals", "run(5) = 0\nclear() = 0\nrestart() = 0\n");
    }

    private static void noRestart() {
        String[] calls = {
            "add(13, 0, 0, 0) = throws.IllegalArgumentException", "add(3, 3, 0, 0) = throws.IndexOutOfBoundsException",
            "setNext(3, 0) = throws.IndexOutOfBoundsException", "setNext(0, 0) = throws.UnsupportedOperationException",
            "setOutput(3, true) = throws.IndexOutOfBoundsException", "setPhase(2, 3) = 0",
            "setPhase(2, 4) = throws.IllegalArgumentException", "setInput(0, 9) = 9", "read() = -1",
            "text(\"o1;o3\") = 5\nread() = -1", "text(\"o1;\") = 3\nread() = -1", "feed('o') = 1", "saveSnapshot() = 3",
            "restoreSnapshot() = throws.IllegalStateException", "rounds() = 29", "total(2) = 160", "unitOf(2) = 0",
        };
        for (String call : calls) {
            Script.run("24: no restart by " + call, RUNNING + call + """

                value(1, false) = 145
                value(1, true) = 145
                restart() = 5
                """);
        }
        Script.run("24: no restart by a refused add of a 25th signal", EdgeCircuitTest.filledUp(0, 23) + """
            add(2, 7, 0, 0) = 23
            setNext(23, 5) = 23
            run(4) = 0
            ! add(1, 0, 0, 0) = throws.IllegalStateException
            value(23, false) = 5
            restart() = 4
            """);
        Script.run("24: no restart by a refused removeLast", """
            run(4) = 0
            ! removeLast() = throws.NoSuchElementException
            restart() = 4
            """);
    }

    private static void mostCalls() {
        StringBuilder most = new StringBuilder();
        for (int i = 0; i < 511; i++) {
            most.append("run(200) = 0\n");
        }
        Script.run("an object is used for 512 calls", most + "restart() = 102200\n");
    }
}
