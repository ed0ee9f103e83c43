/** The boundary cases of promises 12 to 14: "Demanded bits" and the widths of "Narrowing". */
public final class EdgeDemandTest {
    /** Signal 2 has all ints as its range. */
    static final String WIDE = """
            add(0, -4096, 4095, 0) = 0
            add(9, 0, 15, 0) = 1
            add(9, 1, 5, 0) = 2
            range(2, false) = MIN
            range(2, true) = MAX
            """;

    public static void main(String[] args) {
        folding();
        allBits();
        emptySets();
        upToTheHighestBit();
        andWithConstants();
        orAndExclusiveOr();
        shiftsToTheLeft();
        shiftsToTheRight();
        lessAndChoice();
        smallestSets();
        longestWay();
        widthsAndSigns();
        signals();
        Script.finish();
    }

    /** Of an input, one bit is asked, by an "and" with a constant. */
    private static void folded(String sentence, int least, int greatest, int bit, int due) {
        Script.run("12: " + sentence + ", bit " + bit + " of " + least + " to " + greatest, "add(0, " + least + ", "
                + greatest + ", 0) = 0\nadd(1, " + (1 << bit) + ", 0, 0) = 1\nadd(6, 0, 1, 0) = 2\n"
                + "setOutput(2, true) = false\ndemanded(0) = " + due + "\n");
    }

    private static void folding() {
        for (int bit = 0; bit <= 3; bit++) {
            folded("a bit below the width is kept", 0, 15, bit, 1 << bit);
            folded("a bit below the width is kept", -8, 7, bit, 1 << bit);
        }
        for (int bit = 4; bit <= 11; bit++) {
            folded("the bits from w on are dropped", 0, 15, bit, 0);
            folded("a bit from w on adds bit w - 1 of a signed range", -8, 7, bit, 8);
        }
        folded("the width 1", 0, 0, 0, 1);
        folded("the width 1", 0, 1, 0, 1);
        folded("the width 1", 0, 1, 1, 0);
        folded("the width 1", -1, -1, 0, 1);
        folded("the width 1", -1, 0, 0, 1);
        folded("the width 1", -1, 0, 1, 1);
        folded("the width 1", -1, 0, 11, 1);
        folded("the width 13", -4096, 4095, 11, 2048);
    }

    private static void allBits() {
        Script.run("12: all bits are asked of an output, 32 of them at most", WIDE + """
            demanded(2) = 0
            setOutput(2, true) = false
            demanded(2) = -1
            width(2, false) = 32
            isSigned(2) = true
            """);
        Script.run("12: all bits of an output without a negative value", EdgeRangeTest.BIG + """
            setOutput(4, true) = false
            demanded(4) = MAX
            width(4, false) = 31
            isSigned(4) = false
            """);
        Script.run("12: one bit at least of an output", """
            add(1, 0, 0, 0) = 0
            add(1, -1, 0, 0) = 1
            setOutput(0, true) = false
            setOutput(1, true) = false
            demanded(0) = 1
            demanded(1) = 1
            isSigned(0) = false
            isSigned(1) = true
            """);
    }

    private static void emptySets() {
        for (int kind = 2; kind <= 12; kind++) {
            String signal = "add(0, 2, 3, 0) = 0\nadd(0, 0, 1, 0) = 1\n"
                    + (kind == 2 ? "add(2, 2, 0, 0) = 2\nsetNext(2, 0) = 2\n" : "add(" + kind + ", 0, 1, 1) = 2\n");
            Script.run("12: without outputs, kind " + kind + " asks nothing", signal + """
                demanded(2) = 0
                demanded(1) = 0
                demanded(0) = 0
                total(3) = 0
                total(4) = 3
                """);
            // The bit that is asked is above the range of signal 2, so that nothing is left of it.
            Script.run("12: if D is empty, kind " + kind + " asks nothing", signal + """
                add(1, 2048, 0, 0) = 3
                add(6, 2, 3, 0) = 4
                setOutput(4, true) = false
                demanded(2) = 0
                demanded(1) = 0
                demanded(0) = 0
                total(4) = 3
                """);
        }
    }

    /** The lowest or the highest bits of a signal are asked by shifts and an "and". */
    private static void upToTheHighestBit() {
        for (int kind = 3; kind <= 5; kind++) {
            String signal = WIDE + "add(" + kind + ", 2, 2, 0) = 3\n";
            Script.run("12: kind " + kind + ", the highest bit of D is 0", signal + """
                add(1, 1, 0, 0) = 4
                add(6, 3, 4, 0) = 5
                setOutput(5, true) = false
                demanded(3) = 1
                demanded(2) = 1
                """);
            Script.run("12: kind " + kind + ", bits 1 and 11", signal + """
                add(1, 2050, 0, 0) = 4
                add(6, 3, 4, 0) = 5
                setOutput(5, true) = false
                demanded(3) = 2050
                demanded(2) = 4095
                """);
            String top = signal + "add(10, 3, 15, 0) = 4\nadd(10, 4, 15, 0) = 5\n";
            Script.run("12: kind " + kind + ", the highest bit of D is 30", top + """
                add(1, 1, 0, 0) = 6
                add(6, 5, 6, 0) = 7
                setOutput(7, true) = false
                demanded(3) = 1073741824
                demanded(2) = MAX
                width(2, false) = 31
                isSigned(2) = false
                """);
            Script.run("12: kind " + kind + ", the highest bit of D is 31", top + """
                add(1, 2, 0, 0) = 6
                add(6, 5, 6, 0) = 7
                setOutput(7, true) = false
                demanded(3) = MIN
                demanded(2) = -1
                width(2, false) = 32
                isSigned(2) = true
                """);
        }
    }

    private static void andWithConstants() {
        String[][] due = {
            {"0", "0"}, {"1", "1"}, {"8", "8"}, {"15", "15"}, {"16", "8"}, {"-1", "15"}, {"-8", "8"}, {"-2", "14"},
            {"-9", "15"}, {"-4096", "8"}, {"4095", "15"},
        };
        for (String[] row : due) {
            Script.run("12: and with the constant " + row[0], "add(0, -8, 7, 0) = 0\nadd(1, " + row[0] + ", 0, 0) = 1\n"
                    + "add(6, 0, 1, 0) = 2\nadd(6, 1, 0, 0) = 3\nsetOutput(2, true) = false\ndemanded(0) = " + row[1]
                    + "\nsetOutput(2, false) = true\nsetOutput(3, true) = false\ndemanded(0) = " + row[1] + "\n");
        }
        Script.run("12: only a signal of kind 1 is a constant", """
            add(0, -8, 7, 0) = 0
            add(1, 2, 0, 0) = 1
            add(2, 2, 0, 0) = 2
            add(0, 2, 2, 0) = 3
            add(9, 1, 0, 0) = 4
            add(6, 0, 1, 0) = 5
            add(6, 0, 2, 0) = 6
            add(6, 0, 3, 0) = 7
            add(6, 0, 4, 0) = 8
            setOutput(5, true) = false
            demanded(0) = 2
            setOutput(5, false) = true
            setOutput(6, true) = false
            demanded(0) = 3
            setOutput(6, false) = true
            setOutput(7, true) = false
            demanded(0) = 3
            setOutput(7, false) = true
            setOutput(8, true) = false
            demanded(0) = 3
            """);
        Script.run("12: the same constant twice, and two constants", """
            add(1, 6, 0, 0) = 0
            add(1, 9, 0, 0) = 1
            add(6, 0, 0, 0) = 2
            add(6, 0, 1, 0) = 3
            setOutput(2, true) = false
            demanded(0) = 6
            setOutput(2, false) = true
            setOutput(3, true) = false
            demanded(3) = 7
            demanded(0) = 1
            demanded(1) = 6
            """);
    }

    private static void orAndExclusiveOr() {
        for (int kind = 7; kind <= 8; kind++) {
            Script.run("12: kind " + kind + " asks D, of constants too", """
                add(0, -8, 7, 0) = 0
                add(1, 5, 0, 0) = 1
                """ + "add(" + kind + ", 0, 1, 0) = 2\n" + """
                add(1, 2, 0, 0) = 3
                add(6, 2, 3, 0) = 4
                setOutput(4, true) = false
                demanded(2) = 2
                demanded(0) = 2
                demanded(1) = 2
                setOutput(2, true) = false
                demanded(2) = 15
                demanded(0) = 15
                # Bit 3 is above the width 3 of the constant, which is not signed.
                demanded(1) = 7
                """);
        }
    }

    private static void shiftsToTheLeft() {
        String shift = "add(0, -8, 7, 0) = 0\nadd(9, 0, 3, 0) = 1\n";
        Script.run("12: a shift to the left drops the bits below 0", shift + """
            add(1, 7, 0, 0) = 2
            add(6, 1, 2, 0) = 3
            setOutput(3, true) = false
            demanded(1) = 7
            demanded(0) = 0
            """);
        Script.run("12: the first bit that is not below 0", shift + """
            add(1, 8, 0, 0) = 2
            add(6, 1, 2, 0) = 3
            setOutput(3, true) = false
            demanded(1) = 8
            demanded(0) = 1
            """);
        Script.run("12: a shift to the left by 15 bits, bit 14 and bit 15", """
            add(0, -8, 7, 0) = 0
            add(9, 0, 15, 0) = 1
            add(10, 1, 10, 0) = 2
            add(1, 16, 0, 0) = 3
            add(6, 2, 3, 0) = 4
            add(1, 32, 0, 0) = 5
            add(6, 2, 5, 0) = 6
            setOutput(4, true) = false
            demanded(1) = 16384
            demanded(0) = 0
            setOutput(4, false) = true
            setOutput(6, true) = false
            demanded(1) = 32768
            demanded(0) = 1
            """);
        Script.run("12: a shift to the left by 0 bits", """
            add(0, -8, 7, 0) = 0
            add(9, 0, 0, 0) = 1
            setOutput(1, true) = false
            demanded(0) = 15
            """);
        Script.run("12: all 32 bits, shifted to the left", WIDE + """
            setOutput(2, true) = false
            demanded(2) = -1
            demanded(1) = 134217727
            width(1, true) = 28
            width(1, false) = 27
            isSigned(1) = false
            demanded(0) = 4095
            width(0, false) = 12
            isSigned(0) = false
            """);
    }

    private static void shiftsToTheRight() {
        Script.run("12: a shift to the right by 15 bits, bits 15 and 16", WIDE + """
            add(10, 2, 15, 0) = 3
            add(10, 3, 5, 0) = 4
            add(1, 1024, 0, 0) = 5
            add(6, 4, 5, 0) = 6
            add(1, 2048, 0, 0) = 7
            add(6, 4, 7, 0) = 8
            setOutput(6, true) = false
            demanded(3) = 32768
            demanded(2) = 1073741824
            setOutput(6, false) = true
            setOutput(8, true) = false
            demanded(3) = 65536
            demanded(2) = MIN
            width(2, false) = 32
            """);
        Script.run("12: a shift to the right by 0 bits", WIDE + """
            add(10, 2, 0, 0) = 3
            setOutput(3, true) = false
            demanded(3) = -1
            demanded(2) = -1
            """);
        Script.run("12: a shift to the right of which nothing is left but the sign", """
            add(0, -8, 7, 0) = 0
            add(10, 0, 3, 0) = 1
            add(10, 0, 4, 0) = 2
            add(10, 0, 15, 0) = 3
            setOutput(1, true) = false
            demanded(1) = 1
            demanded(0) = 8
            setOutput(1, false) = true
            setOutput(2, true) = false
            demanded(0) = 8
            setOutput(2, false) = true
            setOutput(3, true) = false
            demanded(3) = 1
            demanded(0) = 8
            isSigned(0) = true
            """);
        Script.run("12: a shift to the right of which nothing is left", """
            add(0, 0, 7, 0) = 0
            add(10, 0, 3, 0) = 1
            setOutput(1, true) = false
            demanded(1) = 1
            demanded(0) = 0
            """);
    }

    private static void lessAndChoice() {
        Script.run("12: less asks all bits of both, even if it has only one value", WIDE + """
            add(0, 0, 7, 0) = 3
            add(0, 8, 9, 0) = 4
            add(11, 2, 3, 0) = 5
            add(11, 3, 4, 0) = 6
            setOutput(5, true) = false
            demanded(2) = -1
            demanded(3) = 7
            demanded(4) = 0
            setOutput(5, false) = true
            setOutput(6, true) = false
            demanded(6) = 1
            demanded(2) = 0
            demanded(3) = 7
            demanded(4) = 15
            """);
        Script.run("12: a choice asks all bits of a, even if it is sure", WIDE + """
            add(1, 0, 0, 0) = 3
            add(12, 2, 3, 3) = 4
            setOutput(4, true) = false
            demanded(4) = 1
            demanded(2) = -1
            demanded(3) = 1
            add(0, 0, 7, 0) = 5
            add(12, 3, 5, 3) = 6
            setOutput(4, false) = true
            setOutput(6, true) = false
            # Only 0 can be chosen: bit 0 is left of D, and it is asked of the other value as well.
            demanded(6) = 1
            demanded(5) = 1
            demanded(3) = 1
            demanded(2) = 0
            """);
        Script.run("12: only the operands are asked, not the signal whose number stands in place of a third one", """
            add(0, 0, 7, 0) = 0
            add(0, 0, 7, 0) = 1
            add(0, 0, 7, 0) = 2
            add(11, 1, 2, 0) = 3
            setOutput(3, true) = false
            demanded(1) = 7
            demanded(2) = 7
            demanded(0) = 0
            setOutput(3, false) = true
            add(9, 1, 2, 0) = 4
            setOutput(4, true) = false
            demanded(1) = 7
            demanded(2) = 0
            demanded(0) = 0
            """);
        Script.run("12: one signal as a and b of a choice", """
            add(0, 0, 255, 0) = 0
            add(12, 0, 0, 0) = 1
            add(1, 4, 0, 0) = 2
            add(6, 1, 2, 0) = 3
            setOutput(3, true) = false
            demanded(1) = 4
            demanded(0) = 255
            """);
    }

    private static void smallestSets() {
        Script.run("12: registers in a ring ask nothing of one another without an output", """
            add(2, 1, 0, 0) = 0
            add(2, 7, 0, 0) = 1
            add(3, 0, 1, 0) = 2
            setNext(0, 2) = 0
            setNext(1, 2) = 1
            demanded(0) = 0
            demanded(1) = 0
            demanded(2) = 0
            total(4) = 3
            """);
        Script.run("12: a register that is its own next signal", """
            add(2, 9, 0, 0) = 0
            add(1, 1, 0, 0) = 1
            add(6, 0, 1, 0) = 2
            demanded(0) = 0
            setOutput(2, true) = false
            demanded(0) = 1
            setOutput(0, true) = false
            demanded(0) = 15
            """);
        Script.run("12: a ring in which each round asks one more bit, up to the width", """
            add(2, 0, 0, 0) = 0
            add(0, 0, 4095, 0) = 1
            add(10, 0, 1, 0) = 2
            add(7, 2, 1, 0) = 3
            setNext(0, 3) = 0
            add(1, 1, 0, 0) = 4
            add(6, 0, 4, 0) = 5
            setOutput(5, true) = false
            width(0, true) = 12
            demanded(0) = 4095
            demanded(3) = 4095
            demanded(1) = 4095
            demanded(2) = 2047
            """);
    }

    private static void longestWay() {
        StringBuilder registers = new StringBuilder();
        for (int i = 0; i < 18; i++) {
            registers.append("add(2, 0, 0, 0) = ").append(i).append('\n');
        }
        registers.append("add(0, 0, 4095, 0) = 18\nadd(10, 0, 1, 0) = 19\nadd(7, 18, 19, 0) = 20\n");
        for (int i = 0; i < 17; i++) {
            registers.append("setNext(").append(i).append(", ").append(i + 1).append(") = ").append(i).append('\n');
        }
        Script.run("12: each bit leads through all registers to the next one", registers + """
            setNext(17, 20) = 17
            add(1, 1, 0, 0) = 21
            add(6, 0, 21, 0) = 22
            setOutput(22, true) = false
            width(0, true) = 12
            demanded(0) = 4095
            demanded(17) = 4095
            demanded(18) = 4095
            demanded(19) = 2047
            """);
    }

    private static void widthsAndSigns() {
        Script.run("13: the width is 0 without demanded bits", """
            add(0, -8, 7, 0) = 0
            width(0, false) = 0
            width(0, true) = 4
            isSigned(0) = false
            """);
        String masked = "add(0, -8, 7, 0) = 0\nadd(1, 1, 0, 0) = 1\nadd(1, 4, 0, 0) = 2\nadd(1, 8, 0, 0) = 3\n"
                + "add(6, 0, 1, 0) = 4\nadd(6, 0, 2, 0) = 5\nadd(6, 0, 3, 0) = 6\n";
        Script.run("13: 1 more than the highest demanded bit, bit 0", masked + """
            setOutput(4, true) = false
            width(0, false) = 1
            isSigned(0) = false
            """);
        Script.run("14: a width one less than that of the range is unsigned", masked + """
            setOutput(5, true) = false
            demanded(0) = 4
            width(0, false) = 3
            isSigned(0) = false
            """);
        Script.run("14: the width of a signed range is signed, though not all bits are demanded", masked + """
            setOutput(6, true) = false
            demanded(0) = 8
            width(0, false) = 4
            isSigned(0) = true
            """);
        Script.run("14: a range from 0 is not signed, one from -1 is", """
            add(0, 0, 7, 0) = 0
            add(0, -1, 7, 0) = 1
            add(0, -1, -1, 0) = 2
            setOutput(0, true) = false
            setOutput(1, true) = false
            setOutput(2, true) = false
            isSigned(0) = false
            isSigned(1) = true
            isSigned(2) = true
            width(0, false) = 3
            width(1, false) = 4
            width(2, false) = 1
            """);
    }

    private static void signals() {
        String two = "add(0, 0, 9, 0) = 0\nadd(2, 3, 0, 0) = 1\nsetOutput(1, true) = false\ndemanded(1) = 3\n";
        for (String wrong : new String[] {"-1", "2", "24", "MIN", "MAX"}) {
            Script.run("12: there is no such signal", two + "! demanded(" + wrong + ") = throws.IndexOutOfBoundsException\n");
            Script.run("14: there is no such signal", two + "! isSigned(" + wrong + ") = throws.IndexOutOfBoundsException\n");
        }
    }
}
