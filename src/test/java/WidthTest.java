/** Promises 12 to 20: demanded bits, widths, costs and units. */
public final class WidthTest {
    public static void main(String[] args) {
        folding();
        demandOfKinds();
        choiceAsksBoth();
        demandOfRegisters();
        registerFirst();
        costs();
        totals();
        units();
        Script.finish();
    }

    private static void folding() {
        Script.run("promise 12: all bits are asked of an output", """
            add(0, 0, 0, 0) = 0
            add(0, 0, 9, 0) = 1
            add(0, -1, 9, 0) = 2
            add(0, -1, -1, 0) = 3
            demanded(2) = 0
            width(2, false) = 0
            isSigned(2) = false
            setOutput(0, true) = false
            setOutput(1, true) = false
            setOutput(2, true) = false
            setOutput(3, true) = false
            demanded(0) = 1
            demanded(1) = 15
            demanded(2) = 31
            demanded(3) = 1
            width(0, false) = 1
            width(1, false) = 4
            width(2, false) = 5
            isSigned(1) = false
            isSigned(2) = true
            isSigned(3) = true
            ! demanded(4) = throws.IndexOutOfBoundsException
            demanded(-1) = throws.IndexOutOfBoundsException
            ! isSigned(4) = throws.IndexOutOfBoundsException
            isSigned(-1) = throws.IndexOutOfBoundsException
            """);
        Script.run("promise 12: the sign is asked for by the bits above it", """
            add(0, -8, 7, 0) = 0
            add(1, 32, 0, 0) = 1
            add(6, 0, 1, 0) = 2
            setOutput(2, true) = false
            demanded(2) = 63
            # Only bit 5 is asked; it is above the width 4 and becomes the sign.
            demanded(0) = 8
            width(0, false) = 4
            isSigned(0) = true
            demanded(1) = 63
            """);
        Script.run("promise 12: bits above an unsigned range are dropped", """
            add(0, 0, 7, 0) = 0
            add(1, 32, 0, 0) = 1
            add(6, 0, 1, 0) = 2
            setOutput(2, true) = false
            range(2, true) = 7
            demanded(2) = 7
            demanded(0) = 0
            width(0, false) = 0
            total(4) = 1
            """);
    }

    private static void demandOfKinds() {
        Script.run("promise 12: sums, differences and products ask up to the highest bit", """
            add(0, -1000, 1000, 0) = 0
            add(0, -1000, 1000, 0) = 1
            add(3, 0, 1, 0) = 2
            add(1, 20, 0, 0) = 3
            add(6, 2, 3, 0) = 4
            setOutput(4, true) = false
            demanded(4) = 31
            demanded(3) = 31
            demanded(2) = 20
            width(2, false) = 5
            demanded(0) = 31
            demanded(1) = 31
            width(0, false) = 5
            isSigned(0) = false
            isSigned(2) = false
            """);
        Script.run("promise 12: and with one constant, from both sides, and with two", """
            add(0, -1000, 1000, 0) = 0
            add(1, -4, 0, 0) = 1
            add(6, 1, 0, 0) = 2
            setOutput(2, true) = false
            range(2, false) = -1024
            demanded(2) = 2047
            demanded(0) = 2044
            demanded(1) = 7
            add(1, 6, 0, 0) = 3
            add(1, 3, 0, 0) = 4
            add(6, 3, 4, 0) = 5
            setOutput(2, false) = true
            setOutput(5, true) = false
            demanded(5) = 3
            demanded(3) = 3
            demanded(4) = 2
            add(2, 6, 0, 0) = 6
            add(6, 6, 4, 0) = 7
            setOutput(5, false) = true
            setOutput(7, true) = false
            demanded(6) = 3
            # A register is no constant, even if it always has one value.
            demanded(4) = 3
            """);
        Script.run("promise 12: or, exclusive or, shifts", """
            add(0, -1000, 1000, 0) = 0
            add(0, 0, 255, 0) = 1
            add(7, 0, 1, 0) = 2
            add(1, 1536, 0, 0) = 3
            add(6, 2, 3, 0) = 4
            setOutput(4, true) = false
            demanded(2) = 1536
            demanded(0) = 1536
            demanded(1) = 0
            clear() = 5
            add(0, 0, 255, 0) = 0
            add(9, 0, 3, 0) = 1
            add(1, 60, 0, 0) = 2
            add(6, 1, 2, 0) = 3
            setOutput(3, true) = false
            demanded(1) = 60
            demanded(0) = 7
            setOutput(1, true) = false
            demanded(0) = 255
            clear() = 4
            add(0, -128, 127, 0) = 0
            add(10, 0, 3, 0) = 1
            add(1, 1, 0, 0) = 2
            add(6, 1, 2, 0) = 3
            setOutput(3, true) = false
            demanded(1) = 1
            demanded(0) = 8
            width(0, false) = 4
            setOutput(1, true) = false
            demanded(1) = 31
            demanded(0) = 248
            isSigned(0) = true
            """);
        Script.run("promise 12: a shift to the right asks for the sign", """
            add(0, -4096, 4095, 0) = 0
            add(9, 0, 15, 0) = 1
            add(9, 1, 15, 0) = 2
            width(2, true) = 32
            add(10, 2, 15, 0) = 3
            add(1, 4095, 0, 0) = 4
            add(9, 4, 5, 0) = 5
            width(3, true) = 17
            # Of bits 5 to 15, none reaches bit 31 - 15.
            add(1, 32, 0, 0) = 6
            add(6, 3, 6, 0) = 7
            setOutput(7, true) = false
            demanded(3) = 32
            demanded(2) = 1048576
            demanded(1) = 32
            demanded(0) = 0
            setOutput(7, false) = true
            setOutput(3, true) = false
            demanded(3) = 131071
            demanded(2) = -32768
            demanded(1) = 131071
            demanded(0) = 3
            """);
        Script.run("promise 12: a shift to the right asks for the sign only if it is used", """
            add(0, -4096, 4095, 0) = 0
            add(9, 0, 15, 0) = 1
            add(9, 1, 15, 0) = 2
            add(10, 2, 15, 0) = 3
            add(10, 3, 4, 0) = 4
            add(1, 2048, 0, 0) = 5
            add(6, 4, 5, 0) = 6
            add(10, 3, 5, 0) = 7
            add(6, 7, 5, 0) = 8
            setOutput(6, true) = false
            demanded(4) = 2048
            demanded(3) = 32768
            demanded(2) = 1073741824
            demanded(1) = 32768
            demanded(0) = 1
            setOutput(6, false) = true
            setOutput(8, true) = false
            demanded(3) = 65536
            demanded(2) = -2147483648
            demanded(1) = 65536
            demanded(0) = 2
            """);
        Script.run("promise 12: both operands of or and of exclusive or", """
            add(0, -1000, 1000, 0) = 0
            add(0, -1000, 1000, 0) = 1
            add(1, 9, 0, 0) = 2
            add(7, 0, 1, 0) = 3
            add(6, 3, 2, 0) = 4
            add(8, 0, 1, 0) = 5
            add(6, 5, 2, 0) = 6
            setOutput(4, true) = false
            demanded(0) = 9
            demanded(1) = 9
            setOutput(4, false) = true
            demanded(1) = 0
            setOutput(6, true) = false
            demanded(0) = 9
            demanded(1) = 9
            """);
        Script.run("promise 12: less and choice", """
            add(0, -9, 9, 0) = 0
            add(0, 0, 900, 0) = 1
            add(11, 0, 1, 0) = 2
            add(12, 2, 1, 0) = 3
            add(1, 5, 0, 0) = 4
            add(6, 3, 4, 0) = 5
            setOutput(5, true) = false
            demanded(3) = 5
            demanded(2) = 1
            demanded(1) = 1023
            demanded(0) = 31
            add(12, 0, 1, 1) = 6
            add(6, 6, 4, 0) = 7
            setOutput(5, false) = true
            setOutput(7, true) = false
            demanded(2) = 0
            demanded(0) = 31
            demanded(1) = 5
            demanded(6) = 5
            """);
    }

    private static void choiceAsksBoth() {
        Script.run("promise 12: a choice asks D of both its values", """
            add(0, 0, 1, 0) = 0
            add(0, 0, 900, 0) = 1
            add(0, 0, 900, 0) = 2
            add(12, 0, 1, 2) = 3
            add(1, 5, 0, 0) = 4
            add(6, 3, 4, 0) = 5
            setOutput(5, true) = false
            isSigned(1) = false
            demanded(1) = 5
            demanded(2) = 5
            demanded(0) = 1
            """);
    }

    private static void registerFirst() {
        String circuit = """
            add(2, -9, 0, 0) = 0
            add(5, 0, 0, 0) = 1
            add(5, 0, 0, 0) = 2
            setPhase(2, 1) = 0
            setOutput(1, true) = false
            setOutput(2, true) = false
            setOutput(0, true) = false
            """;
        String[] questions = {
            "isSigned(0) = true", "cost(0) = 20", "total(0) = 118", "total(1) = 2176", "total(2) = 76",
            "total(3) = 19", "total(4) = 0", "units() = 1", "unit(0, 2) = 56", "unitOf(2) = 0",
            "demanded(0) = 31", "width(0, true) = 5", "rounds() = 1", "range(1, true) = 81",
            "share() = " + 118.0 / 2176.0, "value(1, true) = 81", "run(2) = 0",
        };
        for (String question : questions) {
            Script.run("promises 10 to 20: the first question after a change, " + question,
                    circuit + question + "\n");
        }
    }

    private static void demandOfRegisters() {
        Script.run("promise 12: a register asks its next signal, until nothing is added", """
            add(2, 0, 0, 0) = 0
            add(2, 0, 0, 0) = 1
            add(0, 0, 255, 0) = 2
            add(10, 1, 1, 0) = 3
            add(3, 1, 2, 0) = 4
            setNext(0, 3) = 0
            setNext(1, 4) = 1
            add(1, 4, 0, 0) = 5
            add(6, 0, 5, 0) = 6
            setOutput(6, true) = false
            demanded(0) = 4
            demanded(3) = 4
            demanded(1) = 15
            demanded(4) = 15
            demanded(2) = 15
            """);
        Script.run("promise 12: registers that ask one another without an output", """
            add(2, 1, 0, 0) = 0
            add(2, 2, 0, 0) = 1
            setNext(0, 1) = 0
            setNext(1, 0) = 1
            demanded(0) = 0
            demanded(1) = 0
            setOutput(0, true) = false
            demanded(0) = 3
            demanded(1) = 3
            """);
    }

    private static void costs() {
        String circuit = """
            add(0, 0, 7, 0) = 0
            add(1, 5, 0, 0) = 1
            add(2, 5, 0, 0) = 2
            add(3, 0, 1, 0) = 3
            add(4, 0, 1, 0) = 4
            add(5, 0, 1, 0) = 5
            add(6, 0, 1, 0) = 6
            add(7, 0, 1, 0) = 7
            add(8, 0, 1, 0) = 8
            add(9, 0, 2, 0) = 9
            add(10, 0, 1, 0) = 10
            add(11, 0, 9, 0) = 11
            add(12, 11, 0, 9) = 12
            """;
        StringBuilder outputs = new StringBuilder();
        for (int i = 0; i < 13; i++) {
            outputs.append("setOutput(").append(i).append(", true) = false\n");
        }
        Script.run("promise 15: costs of all kinds", circuit + outputs + """
            cost(0) = 0
            cost(1) = 0
            cost(2) = 12
            cost(3) = 4
            cost(4) = 4
            cost(5) = 36
            cost(6) = 3
            cost(7) = 3
            cost(8) = 3
            cost(9) = 0
            cost(10) = 0
            cost(11) = 5
            cost(12) = 10
            total(0) = 80
            total(1) = 1408
            total(3) = 45
            total(4) = 0
            ! cost(13) = throws.IndexOutOfBoundsException
            cost(-1) = throws.IndexOutOfBoundsException
            """);
        Script.run("promise 15: nothing is demanded", circuit + """
            cost(2) = 0
            cost(5) = 0
            cost(11) = 0
            cost(12) = 0
            total(0) = 0
            total(1) = 1408
            total(2) = 0
            total(3) = 0
            total(4) = 13
            units() = 0
            share() = 0.0
            """);
        Script.run("promise 15: less costs nothing if it is not demanded, though its operands are", """
            add(0, 0, 7, 0) = 0
            add(0, 0, 99, 0) = 1
            add(11, 1, 0, 0) = 2
            setOutput(0, true) = false
            setOutput(1, true) = false
            cost(2) = 0
            setOutput(2, true) = false
            cost(2) = 7
            """);
    }

    private static void totals() {
        Script.run("promises 16 and 17", """
            share() = throws.ArithmeticException
            total(0) = 0
            total(5) = throws.IllegalArgumentException
            total(-1) = throws.IllegalArgumentException
            add(0, 0, 9, 0) = 0
            setOutput(0, true) = false
            ! share() = throws.ArithmeticException
            total(1) = 0
            add(3, 0, 0, 0) = 1
            add(8, 0, 0, 0) = 2
            share() = 0.0
            setOutput(1, true) = false
            total(0) = 5
            total(1) = 64
            total(2) = 5
            total(3) = 9
            total(4) = 1
            share() = 0.078125
            ! total(5) = throws.IllegalArgumentException
            ! total(-1) = throws.IllegalArgumentException
            """);
        Script.run("promise 17: no rounding but that of doubles", """
            add(0, 0, 1, 0) = 0
            add(12, 0, 0, 0) = 1
            add(3, 0, 0, 0) = 2
            setOutput(2, true) = false
            share() = 0.020833333333333332
            """);
    }

    private static void units() {
        String products = """
            add(0, 0, 15, 0) = 0
            add(0, 0, 3, 0) = 1
            add(5, 0, 0, 0) = 2
            add(5, 0, 0, 0) = 3
            add(5, 1, 1, 0) = 4
            add(5, 0, 1, 0) = 5
            setOutput(2, true) = false
            setOutput(3, true) = false
            setOutput(4, true) = false
            setOutput(5, true) = false
            width(2, false) = 8
            width(3, false) = 8
            width(4, false) = 4
            width(5, false) = 6
            """;
        Script.run("promises 18 to 20: the same phase is not shared", products + """
            units() = 4
            unitOf(2) = 0
            unitOf(5) = 3
            total(2) = 180
            total(0) = 180
            """);
        Script.run("promises 18 to 20: products in several phases share a unit", products + """
            setPhase(3, 1) = 0
            setPhase(4, 2) = 0
            setPhase(5, 3) = 0
            units() = 1
            unit(0, 0) = 5
            unit(0, 1) = 8
            unit(0, 2) = 88
            unit(0, 3) = 4
            unit(0, 4) = 2
            unitOf(2) = 0
            unitOf(3) = 0
            unitOf(4) = 0
            unitOf(5) = 0
            total(0) = 180
            total(2) = 88
            unitOf(0) = throws.NoSuchElementException
            unitOf(6) = throws.IndexOutOfBoundsException
            unitOf(-1) = throws.IndexOutOfBoundsException
            unit(1, 0) = throws.IndexOutOfBoundsException
            unit(1, 5) = throws.IndexOutOfBoundsException
            unit(-1, 0) = throws.IndexOutOfBoundsException
            unit(0, 5) = throws.IllegalArgumentException
            unit(0, -1) = throws.IllegalArgumentException
            """);
        unitChoice();
        unitsOfSums();
    }

    private static void unitChoice() {
        Script.run("promise 18: the least increase is taken, of several the first unit", """
            add(0, 0, 15, 0) = 0
            add(0, 0, 3, 0) = 1
            add(5, 0, 0, 0) = 2
            add(5, 1, 1, 0) = 3
            add(5, 0, 0, 0) = 4
            add(5, 1, 1, 0) = 5
            add(5, 0, 0, 0) = 6
            setOutput(2, true) = false
            setOutput(3, true) = false
            setOutput(4, true) = false
            setOutput(5, true) = false
            setOutput(6, true) = false
            setPhase(5, 1) = 0
            units() = 4
            # Unit 0 would cost 8 more, unit 1 only 4.
            unitOf(5) = 1
            unit(1, 3) = 2
            unit(1, 2) = 20
            unit(1, 1) = 4
            unit(1, 4) = 3
            setPhase(6, 2) = 0
            # Units 0 and 2 would cost 8 more each, unit 1 of width 4 would grow to 80.
            units() = 3
            unitOf(6) = 0
            unit(0, 2) = 72
            unit(2, 3) = 1
            total(2) = 156
            total(0) = 224
            """);
        Script.run("promise 18: a wider signal widens the unit, if this is cheaper", """
            add(0, 0, 15, 0) = 0
            add(0, 0, 3, 0) = 1
            add(5, 1, 1, 0) = 2
            add(5, 0, 0, 0) = 3
            setOutput(2, true) = false
            setOutput(3, true) = false
            setPhase(3, 1) = 0
            # 64 + 8 - 16 = 56 is less than 64.
            units() = 1
            unit(0, 1) = 8
            unit(0, 2) = 72
            unit(0, 4) = 2
            clear() = 4
            add(0, 0, 15, 0) = 0
            add(0, 0, 1, 0) = 1
            add(5, 0, 0, 0) = 2
            add(5, 1, 1, 0) = 3
            setOutput(2, true) = false
            setOutput(3, true) = false
            setPhase(3, 1) = 0
            # An increase of 8 for a product that costs 1.
            units() = 2
            unit(1, 2) = 1
            """);
        Script.run("promise 18: an increase that is the cost alone makes a new unit", """
            add(0, 0, 1, 0) = 0
            add(5, 0, 0, 0) = 1
            add(5, 0, 0, 0) = 2
            setOutput(1, true) = false
            setOutput(2, true) = false
            setPhase(2, 1) = 0
            units() = 2
            unitOf(2) = 1
            """);
    }

    private static void unitsOfSums() {
        Script.run("promise 18: sums and differences have units for their kinds", """
            add(0, 0, 7, 0) = 0
            add(3, 0, 0, 0) = 1
            add(4, 0, 0, 0) = 2
            add(3, 0, 0, 0) = 3
            add(6, 0, 0, 0) = 4
            setOutput(1, true) = false
            setOutput(2, true) = false
            setOutput(4, true) = false
            setPhase(2, 1) = 0
            setPhase(3, 2) = 0
            units() = 2
            unit(0, 0) = 3
            unit(1, 0) = 4
            unit(1, 1) = 4
            unit(1, 2) = 4
            unit(1, 4) = 2
            ! unitOf(3) = throws.NoSuchElementException
            unitOf(4) = throws.NoSuchElementException
            setOutput(3, true) = false
            units() = 3
            unitOf(3) = 2
            total(2) = 15
            """);
    }
}
