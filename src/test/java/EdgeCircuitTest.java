/** The boundary cases of promises 1 to 9, and of "Circuit" in the description: a run for each sentence. */
public final class EdgeCircuitTest {
    private static final String REFUSED = " = throws.IllegalArgumentException\n";
    private static final String MISSING = " = throws.IndexOutOfBoundsException\n";

    public static void main(String[] args) {
        newObject();
        most24Signals();
        constantsOfInputs();
        constantsOfOthers();
        kinds();
        signalsAsOperands();
        operandsWithoutMeaning();
        removeLast();
        nextSignals();
        outputsAndPhases();
        properties();
        clear();
        Script.finish();
    }

    private static String adding(int kind, Object a, Object b, Object c) {
        return "add(" + kind + ", " + a + ", " + b + ", " + c + ")";
    }

    /** Adds constants until there are so many signals; the first one has the number told. */
    static String filledUp(int from, int to) {
        StringBuilder lines = new StringBuilder();
        for (int i = from; i < to; i++) {
            lines.append("add(1, ").append(i).append(", 0, 0) = ").append(i).append('\n');
        }
        return lines.toString();
    }

    private static void newObject() {
        Script.run("1: an empty circuit has no signal 0", """
            count() = 0
            ! signal(0, 0) = throws.IndexOutOfBoundsException
            ! setOutput(0, true) = throws.IndexOutOfBoundsException
            ! setPhase(0, 0) = throws.IndexOutOfBoundsException
            ! setNext(0, 0) = throws.IndexOutOfBoundsException
            ! range(0, true) = throws.IndexOutOfBoundsException
            ! demanded(0) = throws.IndexOutOfBoundsException
            ! width(0, true) = throws.IndexOutOfBoundsException
            ! isSigned(0) = throws.IndexOutOfBoundsException
            ! cost(0) = throws.IndexOutOfBoundsException
            ! unitOf(0) = throws.IndexOutOfBoundsException
            ! setInput(0, 0) = throws.IndexOutOfBoundsException
            ! value(0, false) = throws.IndexOutOfBoundsException
            ! add(3, 0, 0, 0) = throws.IndexOutOfBoundsException
            """);
        Script.run("1: an empty circuit has no units and costs nothing", """
            units() = 0
            ! unit(0, 0) = throws.IndexOutOfBoundsException
            ! share() = throws.ArithmeticException
            total(0) = 0
            total(1) = 0
            total(2) = 0
            total(3) = 0
            total(4) = 0
            """);
        Script.run("1: an empty circuit is analysed in one round and can run", """
            rounds() = 1
            run(1) = 0
            run(200) = 0
            restart() = 201
            """);
        Script.run("1: no input, no faults and no snapshot", """
            ! fault(0, 0) = throws.NoSuchElementException
            ! restoreSnapshot() = throws.IllegalStateException
            ! removeLast() = throws.NoSuchElementException
            clear() = 0
            restart() = 0
            feed('k') = 1
            """);
    }

    private static void most24Signals() {
        String[] all = {
            adding(0, 0, 9, 0), adding(1, 0, 0, 0), adding(2, 0, 0, 0), adding(3, 22, 0, 0), adding(4, 22, 0, 0),
            adding(5, 22, 0, 0), adding(6, 22, 0, 0), adding(7, 22, 0, 0), adding(8, 22, 0, 0), adding(9, 22, 15, 0),
            adding(10, 22, 15, 0), adding(11, 22, 0, 0), adding(12, 22, 21, 20),
        };
        for (String call : all) {
            Script.run("2: the 24th signal is taken, a 25th one is refused: " + call, filledUp(0, 23)
                    + "count() = 23\n" + call + " = 23\ncount() = 24\n! " + call + " = throws.IllegalStateException\n"
                    + "count() = 24\nsignal(23, 0) = " + call.substring(4, call.indexOf(',')) + "\n");
        }
        Script.run("2: there is room again behind removeLast", filledUp(0, 24) + """
            ! add(1, 77, 0, 0) = throws.IllegalStateException
            removeLast() = 1
            add(1, 77, 0, 0) = 23
            ! add(1, 78, 0, 0) = throws.IllegalStateException
            signal(23, 1) = 77
            """);
        Script.run("9: there is room for 24 again behind clear", filledUp(0, 24) + "clear() = 24\n" + filledUp(0, 24)
                + "! add(1, 0, 0, 0) = throws.IllegalStateException\n");
        Script.run("2: all 24 signals can be operands, next signals and outputs", filledUp(0, 22) + """
            add(2, 5, 0, 0) = 22
            add(3, 22, 21, 0) = 23
            setNext(22, 23) = 22
            setOutput(23, true) = false
            setPhase(23, 3) = 0
            unitOf(23) = 0
            run(3) = 0
            value(23, true) = 89
            ! setNext(22, 24) = throws.IndexOutOfBoundsException
            ! setOutput(24, true) = throws.IndexOutOfBoundsException
            """);
    }

    private static void constantsOfInputs() {
        String[] taken = {
            adding(0, -4096, -4096, 0), adding(0, -4096, 4095, 0), adding(0, 4095, 4095, 0), adding(0, 0, 0, 0),
            adding(0, -1, 0, 0), adding(0, 4094, 4095, 0),
        };
        for (String call : taken) {
            Script.run("2: an input from -4096 to 4095, a being at most b: " + call, call + " = 0\ncount() = 1\n");
        }
        String[] below = {adding(0, -4097, 0, 0), adding(0, -4097, -4097, 0), adding(0, "MIN", 0, 0)};
        for (String call : below) {
            Script.run("2: a is below -4096: " + call, "! " + call + REFUSED);
        }
        String[] above = {adding(0, 0, 4096, 0), adding(0, 4095, 4096, 0), adding(0, 0, "MAX", 0)};
        for (String call : above) {
            Script.run("2: b is above 4095: " + call, "! " + call + REFUSED);
        }
        String[] crossed = {
            adding(0, 1, 0, 0), adding(0, -4095, -4096, 0), adding(0, 4095, 4094, 0), adding(0, 0, -4097, 0),
            adding(0, 4096, 4096, 0), adding(0, 4096, 4095, 0), adding(0, "MAX", "MIN", 0), adding(0, "MIN", "MAX", 0),
        };
        for (String call : crossed) {
            Script.run("2: b is below a, or both are out of range: " + call, "! " + call + REFUSED);
        }
    }

    private static void constantsOfOthers() {
        for (int kind = 1; kind <= 2; kind++) {
            for (int a : new int[] {-4096, -4095, 0, 4094, 4095}) {
                Script.run("2: a constant or an initial value from -4096 to 4095", adding(kind, a, 0, 0) + " = 0\n"
                        + "signal(0, 1) = " + a + "\nvalue(0, false) = " + a + "\n");
            }
            for (String a : new String[] {"-4097", "4096", "MIN", "MAX"}) {
                Script.run("2: a constant or an initial value out of range", "! " + adding(kind, a, 0, 0) + REFUSED);
            }
        }
        for (int kind = 9; kind <= 10; kind++) {
            for (int b : new int[] {0, 1, 14, 15}) {
                Script.run("2: a shift by 0 to 15 bits", "add(1, 64, 0, 0) = 0\n" + adding(kind, 0, b, 0) + " = 1\n"
                        + "signal(1, 2) = " + b + "\nvalue(1, false) = " + (kind == 9 ? 64 << b : 64 >> b) + "\n");
            }
            for (String b : new String[] {"-1", "16", "31", "32", "MIN", "MAX"}) {
                Script.run("2: a shift by less than 0 or more than 15 bits",
                        "add(1, 64, 0, 0) = 0\n! " + adding(kind, 0, b, 0) + REFUSED);
            }
        }
    }

    private static void kinds() {
        for (String kind : new String[] {"-1", "13", "MIN", "MAX"}) {
            Script.run("2: there is no such kind", "add(1, 0, 0, 0) = 0\n! add(" + kind + ", 0, 0, 0)" + REFUSED);
        }
        Script.run("2: the first kind and the last one", """
            add(0, 0, 0, 0) = 0
            add(12, 0, 0, 0) = 1
            signal(0, 0) = 0
            signal(1, 0) = 12
            """);
    }

    private static void signalsAsOperands() {
        String two = "add(0, 0, 9, 0) = 0\nadd(1, 3, 0, 0) = 1\n";
        for (int kind = 3; kind <= 12; kind++) {
            int signals = kind == 12 ? 3 : kind == 9 || kind == 10 ? 1 : 2;
            for (int place = 0; place < signals; place++) {
                for (String operand : new String[] {"0", "1", "2", "3", "24", "-1", "MIN", "MAX"}) {
                    String[] o = {"0", "0", "0"};
                    o[place] = operand;
                    boolean exists = operand.equals("0") || operand.equals("1");
                    String call = adding(kind, o[0], o[1], o[2]);
                    Script.run("2: operand " + place + " is a signal below the new one: " + call,
                            two + (exists ? call + " = 2\nsignal(2, " + (place + 1) + ") = " + operand + "\n"
                            : "! " + call + MISSING));
                }
            }
        }
    }

    private static void operandsWithoutMeaning() {
        for (String any : new String[] {"-1", "99", "4096", "MIN", "MAX"}) {
            Script.run("2: operands without meaning are not looked at: " + any, "add(0, 1, 2, " + any + ") = 0\n"
                    + "add(1, 5, " + any + ", " + any + ") = 1\nadd(2, 6, " + any + ", " + any + ") = 2\n"
                    + "add(3, 0, 1, " + any + ") = 3\nadd(4, 0, 1, " + any + ") = 4\nadd(5, 0, 1, " + any + ") = 5\n"
                    + "add(6, 0, 1, " + any + ") = 6\nadd(7, 0, 1, " + any + ") = 7\nadd(8, 0, 1, " + any + ") = 8\n"
                    + "add(9, 0, 1, " + any + ") = 9\nadd(10, 0, 1, " + any + ") = 10\n"
                    + "add(11, 0, 1, " + any + ") = 11\n" + withoutMeaning());
        }
    }

    /** What the signals of operandsWithoutMeaning show for operands that they do not have. */
    private static String withoutMeaning() {
        StringBuilder lines = new StringBuilder("signal(1, 2) = 0\nsignal(2, 2) = 0\nvalue(2, false) = 6\n");
        for (int i = 0; i <= 11; i++) {
            lines.append("signal(").append(i).append(", 3) = 0\n");
        }
        return lines.toString();
    }

    private static void removeLast() {
        Script.run("3: the last signal of all", """
            add(2, 5, 0, 0) = 0
            removeLast() = 2
            count() = 0
            ! removeLast() = throws.NoSuchElementException
            """);
        Script.run("3: no signals behind clear", """
            add(2, 5, 0, 0) = 0
            clear() = 1
            ! removeLast() = throws.NoSuchElementException
            """);
        Script.run("3: only the registers whose next signal it is get themselves", """
            add(2, 1, 0, 0) = 0
            add(2, 2, 0, 0) = 1
            add(2, 3, 0, 0) = 2
            add(1, 4, 0, 0) = 3
            add(1, 5, 0, 0) = 4
            setNext(0, 4) = 0
            setNext(1, 3) = 1
            setNext(2, 4) = 2
            removeLast() = 1
            signal(0, 4) = 0
            signal(1, 4) = 3
            signal(2, 4) = 2
            removeLast() = 1
            signal(1, 4) = 1
            """);
        StringBuilder kinds = new StringBuilder("add(0, 0, 1, 0) = 0\n");
        for (int kind = 1; kind <= 12; kind++) {
            kinds.append(adding(kind, 0, 0, 0)).append(" = ").append(kind).append('\n');
        }
        for (int kind = 12; kind >= 0; kind--) {
            kinds.append("removeLast() = ").append(kind).append('\n');
        }
        Script.run("3: it returns the kind, of all kinds", kinds.toString());
    }

    private static void nextSignals() {
        String three = "add(2, 1, 0, 0) = 0\nadd(1, 7, 0, 0) = 1\nadd(2, 3, 0, 0) = 2\n";
        Script.run("4: the next signal is at first the register itself", three + """
            signal(0, 4) = 0
            signal(2, 4) = 2
            setNext(0, 0) = 0
            setNext(2, 0) = 2
            """);
        Script.run("4: the next signal can be any signal, the first one and the last one", three + """
            setNext(0, 2) = 0
            setNext(0, 1) = 2
            setNext(0, 0) = 1
            setNext(2, 2) = 2
            setNext(2, 0) = 2
            signal(2, 4) = 0
            """);
        for (String wrong : new String[] {"-1", "3", "24", "MIN", "MAX"}) {
            Script.run("4: the register does not exist", three + "! setNext(" + wrong + ", 0)" + MISSING);
            Script.run("4: the next signal does not exist", three + "! setNext(0, " + wrong + ")" + MISSING);
            Script.run("4: both do not exist", three + "! setNext(" + wrong + ", " + wrong + ")" + MISSING);
            Script.run("4: the next signal does not exist, which comes before that the first one is no register",
                    three + "! setNext(1, " + wrong + ")" + MISSING);
        }
        for (int kind = 0; kind <= 12; kind++) {
            String call = "! setNext(1, 0) = throws.UnsupportedOperationException\n";
            if (kind != 2) {
                Script.run("4: kind " + kind + " is no register", "add(2, 1, 0, 0) = 0\n" + adding(kind, 0, 0, 0)
                        + " = 1\n" + call + "signal(1, 4) = -1\n");
            }
        }
    }

    private static void outputsAndPhases() {
        String two = "add(2, 1, 0, 0) = 0\nadd(1, 7, 0, 0) = 1\n";
        Script.run("5: no signal is an output at first", two + """
            signal(0, 5) = 0
            signal(1, 5) = 0
            setOutput(0, false) = false
            setOutput(1, true) = false
            signal(0, 5) = 0
            signal(1, 5) = 1
            """);
        for (String wrong : new String[] {"-1", "2", "24", "MIN", "MAX"}) {
            Script.run("5: there is no such signal", two + "! setOutput(" + wrong + ", true)" + MISSING);
            Script.run("5: there is no such signal", two + "! setOutput(" + wrong + ", false)" + MISSING);
            Script.run("6: there is no such signal", two + "! setPhase(" + wrong + ", 0)" + MISSING);
            Script.run("6: no such signal comes before a wrong phase", two + "! setPhase(" + wrong + ", 4)" + MISSING
                    + "! setPhase(" + wrong + ", -1)" + MISSING);
        }
        Script.run("6: the phase is 0 at first and from 0 to 3", two + """
            signal(0, 6) = 0
            setPhase(0, 0) = 0
            setPhase(0, 3) = 0
            setPhase(0, 2) = 3
            setPhase(0, 1) = 2
            setPhase(0, 0) = 1
            signal(1, 6) = 0
            setPhase(1, 3) = 0
            signal(0, 6) = 0
            """);
        for (String wrong : new String[] {"-1", "4", "MIN", "MAX"}) {
            Script.run("6: the phase is not from 0 to 3", two + "setPhase(1, 2) = 0\n! setPhase(1, " + wrong + ")"
                    + REFUSED + "signal(1, 6) = 2\n");
        }
    }

    private static void properties() {
        String three = "add(1, 7, 0, 0) = 0\nadd(2, 3, 0, 0) = 1\nadd(12, 1, 0, 1) = 2\n";
        Script.run("7: properties from 0 to 6", three + """
            signal(2, 0) = 12
            signal(2, 1) = 1
            signal(2, 2) = 0
            signal(2, 3) = 1
            signal(2, 4) = -1
            signal(2, 5) = 0
            signal(2, 6) = 0
            signal(0, 4) = -1
            signal(1, 4) = 1
            """);
        for (String wrong : new String[] {"-1", "7", "MIN", "MAX"}) {
            Script.run("7: what is not valid", three + "! signal(2, " + wrong + ")" + REFUSED);
        }
        for (String wrong : new String[] {"-1", "3", "24", "MIN", "MAX"}) {
            Script.run("7: there is no such signal", three + "! signal(" + wrong + ", 0)" + MISSING);
            Script.run("7: no such signal comes before what is not valid", three + "! signal(" + wrong + ", 7)" + MISSING
                    + "! signal(" + wrong + ", -1)" + MISSING);
        }
        Script.run("8: from no signal to 24", "count() = 0\nadd(1, 0, 0, 0) = 0\ncount() = 1\n" + filledUp(1, 24)
                + "count() = 24\nremoveLast() = 1\ncount() = 23\n");
    }

    private static void clear() {
        Script.run("9: no signals and 24 signals", "clear() = 0\n" + filledUp(0, 24) + "clear() = 24\nclear() = 0\n");
        Script.run("9: the input stays, even one of 80 characters", "text(\"" + "k1;".repeat(26) + "k2\") = 80\n" + """
            clear() = 0
            ! feed(';') = throws.IllegalStateException
            read() = -1
            # There are 27 items, of which the 25th one finds 24 signals.
            fault(0, 1) = 24
            fault(2, 0) = 6
            """);
        Script.run("9: the snapshot stays", filledUp(0, 24) + """
            saveSnapshot() = 24
            clear() = 24
            count() = 0
            restoreSnapshot() = 24
            signal(23, 1) = 23
            """);
        Script.run("9: signals that are added behind clear have nothing of the earlier ones", """
            add(0, 1, 9, 0) = 0
            add(2, 5, 0, 0) = 1
            setNext(1, 0) = 1
            setOutput(1, true) = false
            setPhase(1, 3) = 0
            setInput(0, 4) = 1
            run(3) = 0
            clear() = 2
            add(0, 1, 9, 0) = 0
            add(2, 5, 0, 0) = 1
            value(0, false) = 1
            value(1, false) = 5
            signal(1, 4) = 1
            signal(1, 5) = 0
            signal(1, 6) = 0
            """);
    }
}
