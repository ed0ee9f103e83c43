/** The boundary cases of promises 15 to 20: "Costs" and "Units" in the description. */
public final class EdgeCostTest {
    private static final String REFUSED = " = throws.IllegalArgumentException\n";
    private static final String MISSING = " = throws.IndexOutOfBoundsException\n";

    public static void main(String[] args) {
        costsOfWidths();
        costOfLess();
        totals();
        share();
        increases();
        ties();
        phases();
        foundAnew();
        numbersOfUnits();
        unitOf();
        questions();
        Script.finish();
    }

    private static final int[] AT_32 = {0, 0, 128, 32, 32, 1024, 32, 32, 32, 0, 0, 32, 64};
    private static final int[] AT_1 = {0, 0, 4, 1, 1, 1, 1, 1, 1, 0, 0, 1, 2};

    private static String signal(int kind, int number, int over) {
        if (kind == 2) {
            return "add(2, 0, 0, 0) = " + number + "\nsetNext(" + number + ", " + over + ") = " + number + "\n";
        }
        return "add(" + kind + ", " + over + ", " + (kind == 9 || kind == 10 ? 0 : over) + ", " + over + ") = "
                + number + "\n";
    }

    private static void costsOfWidths() {
        for (int kind = 2; kind <= 12; kind++) {
            String wide = EdgeDemandTest.WIDE + signal(kind, 3, 2);
            Script.run("15: kind " + kind + " of the width 0", wide + "width(3, false) = 0\ncost(3) = 0\n");
            Script.run("15: kind " + kind + " of the width 32", wide + "setOutput(3, true) = false\nwidth(3, false) = "
                    + (kind == 11 ? 1 : 32) + "\ncost(3) = " + AT_32[kind] + "\n");
            Script.run("16: kind " + kind + " if all signals had the width 32", wide + "total(1) = " + AT_32[kind] + "\n");
            // Bit 0 alone is asked.
            Script.run("15: kind " + kind + " of the width 1", "add(0, 0, 1, 0) = 0\n" + signal(kind, 1, 0)
                    + "add(1, 1, 0, 0) = 2\nadd(6, 1, 2, 0) = 3\nsetOutput(3, true) = false\nwidth(1, false) = 1\n"
                    + "cost(1) = " + AT_1[kind] + "\n");
        }
        Script.run("15: inputs and constants cost nothing, of any width", """
            add(0, -4096, 4095, 0) = 0
            add(1, -4096, 0, 0) = 1
            cost(0) = 0
            cost(1) = 0
            setOutput(0, true) = false
            setOutput(1, true) = false
            width(0, false) = 13
            cost(0) = 0
            cost(1) = 0
            total(1) = 0
            """);
    }

    private static void costOfLess() {
        String two = "add(0, 0, 1, 0) = 0\nadd(0, 0, 4095, 0) = 1\n";
        Script.run("15: less costs the greater one of both widths", two + """
            add(11, 0, 1, 0) = 2
            add(11, 1, 0, 0) = 3
            setOutput(2, true) = false
            cost(2) = 12
            cost(3) = 0
            setOutput(3, true) = false
            cost(3) = 12
            add(11, 0, 0, 0) = 4
            setOutput(4, true) = false
            cost(4) = 1
            """);
        Script.run("15: less of the width 0 costs 0, though its operands have widths", two + """
            add(11, 0, 1, 0) = 2
            setOutput(0, true) = false
            setOutput(1, true) = false
            width(1, false) = 12
            cost(2) = 0
            """);
    }

    private static void totals() {
        String circuit = "add(0, 0, 7, 0) = 0\nadd(3, 0, 0, 0) = 1\nadd(8, 0, 0, 0) = 2\nsetOutput(1, true) = false\n";
        Script.run("16: numbers from 0 to 4", circuit + """
            total(0) = 4
            total(1) = 64
            total(2) = 4
            total(3) = 7
            total(4) = 1
            """);
        for (String wrong : new String[] {"-1", "5", "MIN", "MAX"}) {
            Script.run("16: what is not valid", circuit + "! total(" + wrong + ")" + REFUSED);
            Script.run("16: what is not valid, without signals", "! total(" + wrong + ")" + REFUSED);
        }
        StringBuilder many = new StringBuilder(EdgeDemandTest.WIDE);
        for (int i = 3; i < 24; i++) {
            many.append("add(5, 2, 2, 0) = ").append(i).append("\nsetOutput(").append(i).append(", true) = false\n");
        }
        Script.run("16: the dearest circuit, of 21 products", many + """
            total(0) = 21504
            total(1) = 21504
            total(2) = 21504
            units() = 21
            # 12, 27 and 22 times 32 bits.
            total(3) = 743
            total(4) = 0
            share() = 1.0
            """);
    }

    private static void share() {
        Script.run("17: total(1) is 0 without signals", "! share() = throws.ArithmeticException\n");
        Script.run("17: total(1) is 0 with signals that cost nothing", """
            add(0, 0, 9, 0) = 0
            add(1, 5, 0, 0) = 1
            add(9, 0, 3, 0) = 2
            add(10, 0, 3, 0) = 3
            setOutput(2, true) = false
            total(1) = 0
            ! share() = throws.ArithmeticException
            """);
        Script.run("17: total(0) is 0, total(1) is not", """
            add(0, 0, 9, 0) = 0
            add(6, 0, 0, 0) = 1
            total(0) = 0
            share() = 0.0
            """);
        Script.run("17: nothing is saved", EdgeDemandTest.WIDE + """
            add(7, 2, 2, 0) = 3
            setOutput(3, true) = false
            share() = 1.0
            """);
        Script.run("17: a quotient that is no finite fraction", """
            add(0, 0, 1, 0) = 0
            add(2, 0, 0, 0) = 1
            add(12, 0, 0, 0) = 2
            setOutput(2, true) = false
            total(0) = 2
            total(1) = 192
            share() = 0.010416666666666666
            """);
    }

    /** Products with widths and phases; each row is width, phase and the unit that is due. */
    private static void products(String sentence, int[][] rows, String rest) {
        StringBuilder lines = new StringBuilder("add(1, 1, 0, 0) = 0\n");
        StringBuilder due = new StringBuilder();
        for (int i = 0; i < rows.length; i++) {
            int product = 2 * i + 2;
            lines.append("add(0, 0, ").append((1 << rows[i][0]) - 1).append(", 0) = ").append(product - 1).append('\n');
            lines.append("add(5, ").append(product - 1).append(", 0, 0) = ").append(product).append('\n');
            lines.append("setOutput(").append(product).append(", true) = false\n");
            lines.append("setPhase(").append(product).append(", ").append(rows[i][1]).append(") = 0\n");
            due.append("width(").append(product).append(", false) = ").append(rows[i][0]).append('\n');
            due.append("unitOf(").append(product).append(") = ").append(rows[i][2]).append('\n');
        }
        Script.run(sentence, lines.toString() + due + rest);
    }

    private static void increases() {
        products("18: the increase 3 is less than the cost 4 alone", new int[][] {{3, 0, 0}, {2, 1, 0}}, """
            units() = 1
            unit(0, 1) = 3
            unit(0, 2) = 12
            unit(0, 3) = 2
            total(2) = 12
            total(0) = 13
            """);
        products("18: the increase 4 is not less than the cost 4 alone", new int[][] {{4, 0, 0}, {2, 1, 1}}, """
            units() = 2
            unit(0, 2) = 16
            unit(1, 2) = 4
            total(2) = 20
            total(0) = 20
            """);
        products("18: the increase 8 is less than the cost 9", new int[][] {{8, 0, 0}, {3, 1, 0}}, "units() = 1\n");
        products("18: the increase 9 is not less than the cost 9", new int[][] {{9, 0, 0}, {3, 1, 1}}, "units() = 2\n");
        products("18: a wider signal, 9 + 3 - 4 is less than 9", new int[][] {{2, 0, 0}, {3, 1, 0}}, """
            unit(0, 1) = 3
            unit(0, 2) = 12
            unit(0, 4) = 2
            """);
        products("18: a wider signal, 16 + 4 - 4 is not less than 16", new int[][] {{2, 0, 0}, {4, 1, 1}}, """
            unit(0, 1) = 2
            unit(1, 1) = 4
            unit(1, 4) = 4
            """);
        products("18: two signals and a wider one, 25 + 10 - 12 is less than 25",
                new int[][] {{3, 0, 0}, {3, 1, 0}, {5, 2, 0}}, "unit(0, 2) = 35\nunit(0, 1) = 5\nunit(0, 3) = 3\n");
        products("18: two signals and a wider one, 36 + 12 - 12 is not less than 36",
                new int[][] {{3, 0, 0}, {3, 1, 0}, {6, 2, 1}}, "unit(0, 2) = 12\nunit(1, 2) = 36\nunit(0, 3) = 2\n");
        products("18: the width 1 is never shared", new int[][] {{1, 0, 0}, {1, 1, 1}, {1, 2, 2}}, "units() = 3\n");
        products("18: the width 2 is shared with its like", new int[][] {{2, 0, 0}, {2, 1, 0}}, "unit(0, 2) = 6\n");
    }

    private static void ties() {
        products("18: of several the one that was made first", new int[][] {{8, 0, 0}, {8, 0, 1}, {8, 1, 0}}, """
            unit(0, 3) = 2
            unit(1, 3) = 1
            """);
        products("18: the later one, if its increase is less by 1", new int[][] {{9, 0, 0}, {8, 0, 1}, {8, 1, 1}}, """
            unit(0, 3) = 1
            unit(1, 3) = 2
            """);
        products("18: the first one, if its increase is less by 1", new int[][] {{8, 0, 0}, {9, 0, 1}, {8, 1, 0}}, """
            unit(0, 3) = 2
            unit(1, 3) = 1
            """);
        products("18: the first one of the same phase is passed over",
                new int[][] {{8, 0, 0}, {8, 0, 1}, {8, 1, 0}, {8, 1, 1}, {8, 1, 2}}, """
            units() = 3
            unit(0, 3) = 2
            unit(1, 3) = 2
            unit(2, 3) = 1
            unit(2, 4) = 10
            """);
    }

    private static void phases() {
        products("18: four phases share one unit, a fifth signal needs a second one",
                new int[][] {{8, 0, 0}, {8, 1, 0}, {8, 2, 0}, {8, 3, 0}, {8, 0, 1}, {8, 3, 1}}, """
            units() = 2
            unit(0, 3) = 4
            unit(0, 2) = 88
            unit(1, 3) = 2
            unit(1, 2) = 72
            """);
        products("18: the first phase and the last one differ", new int[][] {{8, 3, 0}, {8, 0, 0}}, "units() = 1\n");
        products("18: no two signals of phase 3", new int[][] {{8, 3, 0}, {8, 3, 1}}, "units() = 2\n");
        products("6: a phase counts at once", new int[][] {{8, 0, 0}, {8, 0, 1}}, """
            setPhase(4, 1) = 0
            units() = 1
            unitOf(4) = 0
            setPhase(4, 0) = 1
            units() = 2
            unitOf(4) = 1
            """);
        for (int kind = 3; kind <= 4; kind++) {
            Script.run("18: sums and differences never increase a unit by less than their cost, kind " + kind,
                    "add(0, 0, 7, 0) = 0\nadd(" + kind + ", 0, 0, 0) = 1\nadd(" + kind + ", 0, 0, 0) = 2\n" + """
                setPhase(2, 1) = 0
                setOutput(1, true) = false
                setOutput(2, true) = false
                width(1, false) = 4
                units() = 2
                unit(1, 4) = 2
                """);
        }
        Script.run("18: a unit is for one kind", """
            add(0, 0, 255, 0) = 0
            add(5, 0, 0, 0) = 1
            add(3, 0, 0, 0) = 2
            add(4, 0, 0, 0) = 3
            setPhase(2, 1) = 0
            setPhase(3, 2) = 0
            setOutput(1, true) = false
            setOutput(2, true) = false
            setOutput(3, true) = false
            units() = 3
            unit(0, 0) = 5
            unit(1, 0) = 3
            unit(2, 0) = 4
            """);
    }

    private static void foundAnew() {
        products("18: units are found anew, narrower than before", new int[][] {{8, 0, 0}, {3, 0, 1}}, """
            unit(0, 1) = 8
            setOutput(2, false) = true
            units() = 1
            unit(0, 1) = 3
            unit(0, 2) = 9
            unit(0, 3) = 1
            unit(0, 4) = 4
            """);
        products("18: units are found anew, with other phases", new int[][] {{8, 0, 0}, {8, 0, 1}}, """
            units() = 2
            setOutput(2, false) = true
            setPhase(4, 1) = 0
            units() = 1
            unitOf(4) = 0
            unit(0, 3) = 1
            unit(0, 2) = 64
            ! unit(1, 0) = throws.IndexOutOfBoundsException
            """);
        products("18: no units are left", new int[][] {{8, 0, 0}, {8, 1, 0}}, """
            units() = 1
            clear() = 5
            units() = 0
            total(2) = 0
            ! unit(0, 0) = throws.IndexOutOfBoundsException
            """);
    }

    private static void numbersOfUnits() {
        StringBuilder many = new StringBuilder("add(0, 0, 1, 0) = 0\n");
        for (int i = 1; i < 24; i++) {
            many.append("add(5, 0, 0, 0) = ").append(i).append("\nsetOutput(").append(i).append(", true) = false\n");
        }
        Script.run("19: 23 units", many + """
            units() = 23
            unit(22, 0) = 5
            unit(22, 4) = 23
            unitOf(23) = 22
            ! unit(23, 0) = throws.IndexOutOfBoundsException
            """);
        String one = "add(0, 0, 255, 0) = 0\nadd(5, 0, 0, 0) = 1\nsetOutput(1, true) = false\nunits() = 1\n";
        Script.run("19: properties from 0 to 4", one + """
            unit(0, 0) = 5
            unit(0, 1) = 16
            unit(0, 2) = 256
            unit(0, 3) = 1
            unit(0, 4) = 1
            """);
        for (String wrong : new String[] {"-1", "1", "24", "MIN", "MAX"}) {
            Script.run("19: there is no such unit", one + "! unit(" + wrong + ", 0)" + MISSING);
            Script.run("19: no such unit comes before what is not valid", one + "! unit(" + wrong + ", 5)" + MISSING
                    + "! unit(" + wrong + ", -1)" + MISSING);
        }
        for (String wrong : new String[] {"-1", "5", "MIN", "MAX"}) {
            Script.run("19: what is not valid", one + "! unit(0, " + wrong + ")" + REFUSED);
        }
        Script.run("19: no such unit comes before what is not valid, without units", "! unit(0, 5)" + MISSING);
        Script.run("18: a signal of the width 0 has no unit", """
            add(0, 0, 255, 0) = 0
            add(3, 0, 0, 0) = 1
            add(4, 0, 0, 0) = 2
            add(5, 0, 0, 0) = 3
            units() = 0
            ! unit(0, 0) = throws.IndexOutOfBoundsException
            ! unitOf(1) = throws.NoSuchElementException
            ! unitOf(2) = throws.NoSuchElementException
            ! unitOf(3) = throws.NoSuchElementException
            setOutput(2, true) = false
            units() = 1
            unitOf(2) = 0
            """);
    }

    private static void unitOf() {
        for (int kind = 0; kind <= 12; kind++) {
            String circuit = "add(0, 0, 1, 0) = 0\n" + (kind <= 2 ? "add(" + kind + ", 0, 1, 0) = 1\n" : signal(kind, 1, 0))
                    + "setOutput(1, true) = false\n";
            boolean hasUnit = kind >= 3 && kind <= 5;
            Script.run("20: kind " + kind, circuit
                    + (hasUnit ? "unitOf(1) = 0\n" : "! unitOf(1) = throws.NoSuchElementException\nunits() = 0\n"));
        }
        String one = "add(0, 0, 255, 0) = 0\nadd(3, 0, 0, 0) = 1\nsetOutput(1, true) = false\nunitOf(1) = 0\n";
        for (String wrong : new String[] {"-1", "2", "24", "MIN", "MAX"}) {
            Script.run("20: there is no such signal", one + "! unitOf(" + wrong + ")" + MISSING);
        }
    }

    private static void questions() {
        String two = "add(0, 0, 9, 0) = 0\nadd(2, 3, 0, 0) = 1\nsetOutput(1, true) = false\ncost(1) = 8\n";
        for (String wrong : new String[] {"-1", "2", "24", "MIN", "MAX"}) {
            Script.run("15: there is no such signal", two + "! cost(" + wrong + ")" + MISSING);
        }
    }
}
