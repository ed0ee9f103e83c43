/** The boundary cases of promises 10, 11 and 13: "Ranges" and "Widths of ranges" in the description. */
public final class EdgeRangeTest {
    private static final int MIN = Integer.MIN_VALUE;
    private static final int MAX = Integer.MAX_VALUE;

    /** Signals 0 to 9, each but the last two with one value, which stands behind it. */
    static final String BIG = """
            add(1, 1, 0, 0) = 0
            # 2^15
            add(9, 0, 15, 0) = 1
            # 2^30
            add(9, 1, 15, 0) = 2
            # 2^30 - 1
            add(4, 2, 0, 0) = 3
            # 2^31 - 1
            add(3, 2, 3, 0) = 4
            add(1, -1, 0, 0) = 5
            # -2^30
            add(5, 2, 5, 0) = 6
            # -2^31
            add(3, 6, 6, 0) = 7
            add(0, -1, 0, 0) = 8
            add(0, 0, 1, 0) = 9
            """;
    private static final int ONE = 0;
    private static final int TWO_15 = 1;
    private static final int TWO_30 = 2;
    private static final int BELOW_TWO_30 = 3;
    private static final int GREATEST = 4;
    private static final int MINUS_ONE = 5;
    private static final int MINUS_TWO_30 = 6;
    private static final int LEAST = 7;
    private static final int MINUS_ONE_TO_0 = 8;
    private static final int FROM_0_TO_1 = 9;

    public static void main(String[] args) {
        sumsAndDifferences();
        products();
        shifts();
        bitwiseWithoutNegative();
        andWithOneNegative();
        bitwiseWithNegative();
        less();
        choice();
        rounds();
        fourthRound();
        widening();
        wideningToAllInts();
        widthsOfRanges();
        signals();
        Script.finish();
    }

    /** The range of a new signal 10 over the big ones. */
    private static void big(String sentence, int kind, int a, int b, int least, int greatest) {
        Script.run(sentence + ": kind " + kind + " of " + a + ", " + b, BIG + "add(" + kind + ", " + a + ", " + b
                + ", 0) = 10\nrange(10, false) = " + least + "\nrange(10, true) = " + greatest + "\n");
    }

    private static void sumsAndDifferences() {
        big("10: a sum that is the greatest int", 3, GREATEST, MINUS_ONE_TO_0, MAX - 1, MAX);
        big("10: a sum of which one is no int above", 3, GREATEST, FROM_0_TO_1, MIN, MAX);
        big("10: a sum, no int at all, above", 3, GREATEST, ONE, MIN, MAX);
        big("10: a sum that is the least int", 3, LEAST, FROM_0_TO_1, MIN, MIN + 1);
        big("10: a sum of which one is no int below", 3, LEAST, MINUS_ONE_TO_0, MIN, MAX);
        big("10: a sum, no int at all, below", 3, LEAST, MINUS_ONE, MIN, MAX);
        big("10: a sum that is as great as can be", 3, GREATEST, GREATEST, MIN, MAX);
        big("10: a sum that is as low as can be", 3, LEAST, LEAST, MIN, MAX);
        big("10: a sum of both ends", 3, GREATEST, LEAST, -1, -1);
        big("10: a difference that is the greatest int", 4, GREATEST, FROM_0_TO_1, MAX - 1, MAX);
        big("10: a difference of which one is no int above", 4, GREATEST, MINUS_ONE_TO_0, MIN, MAX);
        big("10: a difference that is the least int", 4, LEAST, MINUS_ONE_TO_0, MIN, MIN + 1);
        big("10: a difference of which one is no int below", 4, LEAST, FROM_0_TO_1, MIN, MAX);
        big("10: -1 minus the least int", 4, MINUS_ONE, LEAST, MAX, MAX);
        big("10: -1 to 0 minus the least int", 4, MINUS_ONE_TO_0, LEAST, MIN, MAX);
        big("10: a difference of the ends", 4, GREATEST, LEAST, MIN, MAX);
        big("10: a difference of the ends", 4, LEAST, GREATEST, MIN, MAX);
    }

    private static void products() {
        big("10: a product that is the least int", 5, LEAST, FROM_0_TO_1, MIN, 0);
        big("10: a product of which one is no int above", 5, LEAST, MINUS_ONE_TO_0, MIN, MAX);
        big("10: a product, no int at all", 5, LEAST, MINUS_ONE, MIN, MAX);
        big("10: a product that is the greatest int", 5, GREATEST, ONE, MAX, MAX);
        big("10: a product one above the least int", 5, GREATEST, MINUS_ONE, MIN + 1, MIN + 1);
        big("10: the square of the least int", 5, LEAST, LEAST, MIN, MAX);
        big("10: the square of the greatest int", 5, GREATEST, GREATEST, MIN, MAX);
        big("10: the product of both ends", 5, LEAST, GREATEST, MIN, MAX);
        big("10: 2^30", 5, TWO_15, TWO_15, 1 << 30, 1 << 30);
        Script.run("10: 2^31 is no int, -2^31 is one", BIG + """
            add(1, 2, 0, 0) = 10
            add(5, 10, 2, 0) = 11
            range(11, false) = MIN
            range(11, true) = MAX
            add(1, -2, 0, 0) = 12
            add(5, 2, 12, 0) = 13
            range(13, false) = MIN
            range(13, true) = MIN
            """);
        over("10: the least product is that of the least values", 5, from(2, 3), from(5, 7), 10, 21);
        over("10: the least product is that of the greatest values", 5, from(-3, -2), from(-7, -5), 10, 21);
        over("10: the least product is that of a least and a greatest value", 5, from(-3, -2), from(5, 7), -21, -10);
        over("10: both signs in one range", 5, from(-3, 2), from(5, 7), -21, 14);
        over("10: both signs in one range", 5, from(-3, 2), from(-7, -5), -14, 21);
        over("10: both signs in both ranges, the greatest product is that of the least values", 5, from(-3, 2),
                from(-7, 5), -15, 21);
        over("10: both signs in both ranges, the greatest product is that of the greatest values", 5, from(-2, 3),
                from(-5, 7), -15, 21);
        Script.run("10: the least and the greatest of all four products", """
            add(0, -4096, 4095, 0) = 0
            add(5, 0, 0, 0) = 1
            range(1, false) = -16773120
            range(1, true) = 16777216
            """);
    }

    /** A shift of the signal to the left or right by the bits. */
    private static void shifts() {
        big("10: a shift that is no int above", 9, TWO_30, 1, MIN, MAX);
        big("10: the greatest shift that is an int", 9, BELOW_TWO_30, 1, MAX - 1, MAX - 1);
        big("10: the least shift that is an int", 9, MINUS_TWO_30, 1, MIN, MIN);
        big("10: a shift that is no int below", 9, MINUS_TWO_30, 2, MIN, MAX);
        big("10: a shift by no bits", 9, GREATEST, 0, MAX, MAX);
        big("10: a shift by no bits", 9, LEAST, 0, MIN, MIN);
        big("10: a shift by 15 bits", 9, GREATEST, 15, MIN, MAX);
        big("10: a shift by 15 bits", 9, LEAST, 15, MIN, MAX);
        big("10: -1 to 0 shifted to the left", 9, MINUS_ONE_TO_0, 15, -32768, 0);
        big("10: to the right with the sign", 10, LEAST, 15, -65536, -65536);
        big("10: to the right by no bits", 10, LEAST, 0, MIN, MIN);
        big("10: -1 stays -1", 10, MINUS_ONE, 15, -1, -1);
        big("10: 1 becomes 0", 10, ONE, 1, 0, 0);
        big("10: 1 stays 1", 10, ONE, 0, 1, 1);
        big("10: the greatest int to the right", 10, GREATEST, 15, 65535, 65535);
        Script.run("10: only one end of a shift is no int", """
            add(0, 0, 4095, 0) = 0
            add(9, 0, 15, 0) = 1
            add(9, 1, 4, 0) = 2
            range(2, false) = 0
            range(2, true) = 2146959360
            add(9, 1, 5, 0) = 3
            range(3, false) = MIN
            range(3, true) = MAX
            add(0, -4096, 0, 0) = 4
            add(9, 4, 15, 0) = 5
            add(9, 5, 4, 0) = 6
            range(6, false) = MIN
            range(6, true) = 0
            add(9, 5, 5, 0) = 7
            range(7, false) = MIN
            range(7, true) = MAX
            """);
    }

    /** A signal of the kind over two inputs, in both orders. */
    private static void over(String sentence, int kind, int[] first, int[] second, int least, int greatest) {
        for (int order = 0; order < 2; order++) {
            Script.run(sentence + ": kind " + kind + " over " + first[0] + ".." + first[1] + " and " + second[0] + ".."
                    + second[1] + ", order " + order,
                    "add(0, " + first[0] + ", " + first[1] + ", 0) = 0\n"
                    + "add(0, " + second[0] + ", " + second[1] + ", 0) = 1\n"
                    + "add(" + kind + ", " + order + ", " + (1 - order) + ", 0) = 2\n"
                    + "range(2, false) = " + least + "\nrange(2, true) = " + greatest + "\n");
        }
    }

    private static int[] from(int least, int greatest) {
        return new int[] {least, greatest};
    }

    private static void bitwiseWithoutNegative() {
        int[][] due = {{0, 0}, {1, 1}, {2, 3}, {3, 3}, {4, 7}, {7, 7}, {8, 15}, {2047, 2047}, {2048, 4095}, {4095, 4095}};
        for (int[] row : due) {
            for (int kind = 7; kind <= 8; kind++) {
                over("10: to the least 2^n - 1", kind, from(0, row[0]), from(0, 0), 0, row[1]);
                over("10: to the least 2^n - 1", kind, from(row[0], row[0]), from(row[0], row[0]), 0, row[1]);
            }
            over("10: and, to the lower one", 6, from(0, row[0]), from(0, 4095), 0, row[0]);
            over("10: and, to the lower one", 6, from(row[0], row[0]), from(4095, 4095), 0, row[0]);
        }
        big("10: 2^n - 1 that is the greatest int", 7, TWO_30, GREATEST, 0, MAX);
        big("10: 2^30 needs 2^31 - 1", 8, TWO_30, ONE, 0, MAX);
        big("10: 2^30 - 1 is enough for itself", 8, BELOW_TWO_30, ONE, 0, (1 << 30) - 1);
        big("10: and of great values", 6, TWO_30, GREATEST, 0, 1 << 30);
    }

    private static void andWithOneNegative() {
        over("10: and with a least value of -1", 6, from(-1, 100), from(0, 5), 0, 5);
        over("10: and with a least value of 0", 6, from(0, 100), from(0, 5), 0, 5);
        over("10: and, the range without negative value is the greater one", 6, from(-1, 5), from(0, 100), 0, 100);
        over("10: and, both without negative value", 6, from(0, 5), from(0, 100), 0, 5);
        over("10: and of negative values alone and 0", 6, from(-9, -1), from(0, 0), 0, 0);
        over("10: and, both with a negative value", 6, from(-1, 5), from(-1, 100), -128, 127);
        big("10: and of the least and the greatest int", 6, LEAST, GREATEST, 0, MAX);
        big("10: and of the least int with itself", 6, LEAST, LEAST, MIN, MAX);
    }

    private static void bitwiseWithNegative() {
        int[][] leasts = {{-1, -1}, {-2, -2}, {-3, -4}, {-4, -4}, {-5, -8}, {-2048, -2048}, {-2049, -4096}, {-4096, -4096}};
        for (int[] row : leasts) {
            for (int kind = 7; kind <= 8; kind++) {
                over("10: -2^n not above the least value", kind, from(row[0], 0), from(0, 0), row[1], -row[1] - 1);
            }
            for (int kind = 6; kind <= 8; kind++) {
                over("10: -2^n not above the least value", kind, from(row[0], -1), from(-1, -1), row[1], -row[1] - 1);
            }
        }
        int[][] greatests = {{0, -1}, {1, -2}, {2, -4}, {3, -4}, {4, -8}, {2047, -2048}, {2048, -4096}, {4095, -4096}};
        for (int[] row : greatests) {
            for (int kind = 7; kind <= 8; kind++) {
                over("10: -2^n not above minus the greatest value minus 1", kind, from(-1, 0), from(0, row[0]), row[1],
                        -row[1] - 1);
            }
            for (int kind = 6; kind <= 8; kind++) {
                over("10: -2^n not above minus the greatest value minus 1", kind, from(-1, -1), from(-1, row[0]), row[1],
                        -row[1] - 1);
            }
        }
        big("10: -2^31", 7, LEAST, ONE, MIN, MAX);
        big("10: -2^30 stays", 8, MINUS_TWO_30, ONE, -(1 << 30), (1 << 30) - 1);
        big("10: 2^30 needs -2^31", 8, MINUS_ONE, TWO_30, MIN, MAX);
        big("10: 2^30 - 1 needs -2^30", 8, MINUS_ONE, BELOW_TWO_30, -(1 << 30), (1 << 30) - 1);
    }

    private static void less() {
        Script.run("10: less, of values that touch", """
            add(0, 3, 5, 0) = 0
            add(0, 6, 8, 0) = 1
            add(0, 5, 8, 0) = 2
            add(0, 4, 8, 0) = 3
            add(0, 2, 3, 0) = 4
            add(0, 2, 4, 0) = 5
            add(11, 0, 1, 0) = 6
            range(6, false) = 1
            range(6, true) = 1
            add(11, 0, 2, 0) = 7
            range(7, false) = 0
            range(7, true) = 1
            add(11, 0, 3, 0) = 8
            range(8, false) = 0
            range(8, true) = 1
            add(11, 0, 4, 0) = 9
            range(9, false) = 0
            range(9, true) = 0
            add(11, 0, 5, 0) = 10
            range(10, false) = 0
            range(10, true) = 1
            add(11, 0, 0, 0) = 11
            range(11, false) = 0
            range(11, true) = 1
            add(1, 7, 0, 0) = 12
            add(11, 12, 12, 0) = 13
            range(13, false) = 0
            range(13, true) = 0
            """);
        big("10: the least int is less than the greatest one", 11, LEAST, GREATEST, 1, 1);
        big("10: the greatest int is not less than the least one", 11, GREATEST, LEAST, 0, 0);
    }

    private static void choice() {
        int[][] due = {
            {1, 1, 10, 19}, {1, 9, 10, 19}, {-1, -1, 10, 19}, {-9, -1, 10, 19}, {0, 0, 20, 29}, {0, 1, 10, 29},
            {-1, 0, 10, 29}, {-1, 1, 10, 29}, {-4096, 4095, 10, 29},
        };
        for (int[] row : due) {
            Script.run("10: a choice by a value from " + row[0] + " to " + row[1], "add(0, " + row[0] + ", " + row[1]
                    + ", 0) = 0\nadd(0, 10, 19, 0) = 1\nadd(0, 20, 29, 0) = 2\nadd(12, 0, 1, 2) = 3\nrange(3, false) = "
                    + row[2] + "\nrange(3, true) = " + row[3] + "\n");
        }
        Script.run("10: a choice of ranges of which one contains the other", """
            add(0, 0, 1, 0) = 0
            add(0, -5, 50, 0) = 1
            add(0, 2, 3, 0) = 2
            add(12, 0, 1, 2) = 3
            range(3, false) = -5
            range(3, true) = 50
            add(12, 0, 2, 1) = 4
            range(4, false) = -5
            range(4, true) = 50
            """);
    }

    private static void rounds() {
        Script.run("11: at least 1, without signals", "rounds() = 1\n");
        Script.run("11: at least 1, without registers", "add(0, 0, 9, 0) = 0\nadd(5, 0, 0, 0) = 1\nrounds() = 1\n");
        Script.run("11: 1 for a register that keeps its value", "add(2, 7, 0, 0) = 0\nrounds() = 1\n");
        Script.run("11: 1 if the next signal is within the range", """
            add(1, 7, 0, 0) = 0
            add(2, 7, 0, 0) = 1
            setNext(1, 0) = 1
            rounds() = 1
            range(1, false) = 7
            range(1, true) = 7
            """);
        Script.run("11: a change, and a round without one", """
            add(1, 8, 0, 0) = 0
            add(2, 7, 0, 0) = 1
            setNext(1, 0) = 1
            rounds() = 2
            range(1, false) = 7
            range(1, true) = 8
            """);
        Script.run("11: a later register sees the earlier one as it is then, a round earlier than before", """
            add(1, 8, 0, 0) = 0
            add(2, 7, 0, 0) = 1
            add(2, 7, 0, 0) = 2
            setNext(1, 0) = 1
            setNext(2, 1) = 2
            rounds() = 2
            range(2, true) = 8
            setNext(2, 0) = 1
            setNext(1, 2) = 0
            rounds() = 3
            range(1, true) = 8
            """);
        Script.run("11: other signals see the registers of the round before", """
            add(2, 0, 0, 0) = 0
            add(1, 1, 0, 0) = 1
            add(3, 0, 1, 0) = 2
            add(1, 1, 0, 0) = 3
            add(6, 2, 3, 0) = 4
            setNext(0, 4) = 0
            # 0 and 1 in round 1: 0 + 1 and 1; then 0 to 1, and the "and" to 1.
            rounds() = 2
            range(0, true) = 1
            range(2, true) = 2
            """);
        StringBuilder chain = new StringBuilder();
        for (int i = 0; i < 23; i++) {
            chain.append("add(2, 0, 0, 0) = ").append(i).append('\n');
        }
        chain.append("add(1, 4095, 0, 0) = 23\n");
        for (int i = 0; i < 23; i++) {
            chain.append("setNext(").append(i).append(", ").append(i + 1).append(") = ").append(i).append('\n');
        }
        Script.run("11: a value on its way through 23 registers", chain + """
            rounds() = 24
            range(0, true) = 4095
            range(0, false) = 0
            """);
    }

    /** Registers 3 to 6 over signal 2, which reaches 6 in the first round and 3 in the fourth. */
    private static String chain(int initial, int least, int greatest) {
        StringBuilder lines = new StringBuilder("add(1, 0, 0, 0) = 0\nadd(1, 0, 0, 0) = 1\nadd(0, " + least + ", "
                + greatest + ", 0) = 2\n");
        for (int i = 3; i <= 6; i++) {
            lines.append("add(2, ").append(initial).append(", 0, 0) = ").append(i).append('\n');
        }
        return lines + "setNext(3, 4) = 3\nsetNext(4, 5) = 4\nsetNext(5, 6) = 5\nsetNext(6, 2) = 6\n";
    }

    private static void fourthRound() {
        Script.run("11: in the third round nothing is widened yet, in the fourth it is", chain(0, -5, 5) + """
            rounds() = 5
            range(6, false) = -5
            range(6, true) = 5
            range(5, false) = -5
            range(5, true) = 5
            range(4, false) = -5
            range(4, true) = 5
            range(3, false) = -8
            range(3, true) = 7
            """);
        Script.run("11: an end that neither falls nor rises is not widened", chain(100, 50, 100) + """
            range(4, false) = 50
            range(4, true) = 100
            range(3, false) = 0
            range(3, true) = 100
            """);
        Script.run("11: an end that neither falls nor rises is not widened", chain(-100, -100, -50) + """
            range(4, false) = -100
            range(4, true) = -50
            range(3, false) = -100
            range(3, true) = 0
            """);
    }

    private static void widening() {
        int[][] falls = {
            {-1, -1}, {-2, -2}, {-3, -4}, {-4, -4}, {-5, -8}, {-8, -8}, {-9, -16}, {-2047, -2048}, {-2048, -2048},
            {-2049, -4096}, {-4095, -4096}, {-4096, -4096}, {0, 0},
        };
        for (int[] row : falls) {
            Script.run("11: a least value that falls to " + row[0], chain(0, row[0], 0)
                    + "range(4, false) = " + row[0] + "\nrange(3, false) = " + row[1] + "\nrange(3, true) = 0\n");
        }
        int[][] rises = {
            {1, 1}, {2, 3}, {3, 3}, {4, 7}, {7, 7}, {8, 15}, {2047, 2047}, {2048, 4095}, {4094, 4095}, {4095, 4095}, {0, 0},
        };
        for (int[] row : rises) {
            Script.run("11: a greatest value that rises to " + row[0], chain(0, 0, row[0])
                    + "range(4, true) = " + row[0] + "\nrange(3, true) = " + row[1] + "\nrange(3, false) = 0\n");
        }
        for (int low : new int[] {0, 1, 2, 99}) {
            Script.run("11: a least value above -1 becomes 0", chain(100, low, 100)
                    + "range(4, false) = " + low + "\nrange(3, false) = 0\n");
        }
        for (int high : new int[] {0, -1, -2, -99}) {
            Script.run("11: a greatest value below 1 becomes 0", chain(-100, -100, high)
                    + "range(4, true) = " + high + "\nrange(3, true) = 0\n");
        }
    }

    /** The widened range of a register that a big signal reaches in the fourth round. */
    private static void bigRegister(int signal, int least, int greatest) {
        Script.run("11: n up to 31, signal " + signal, BIG + """
            add(2, 0, 0, 0) = 10
            add(2, 0, 0, 0) = 11
            add(2, 0, 0, 0) = 12
            add(2, 0, 0, 0) = 13
            setNext(10, 11) = 10
            setNext(11, 12) = 11
            setNext(12, 13) = 12
            """ + "setNext(13, " + signal + ") = 13\nrange(10, false) = " + least + "\nrange(10, true) = " + greatest + "\n");
    }

    private static void wideningToAllInts() {
        bigRegister(LEAST, MIN, 0);
        bigRegister(GREATEST, 0, MAX);
        bigRegister(MINUS_TWO_30, -(1 << 30), 0);
        bigRegister(TWO_30, 0, MAX);
        bigRegister(BELOW_TWO_30, 0, (1 << 30) - 1);
        Script.run("11: -2^30 - 1 becomes -2^31", BIG + """
            add(3, 6, 5, 0) = 10
            add(2, 0, 0, 0) = 11
            add(2, 0, 0, 0) = 12
            add(2, 0, 0, 0) = 13
            add(2, 0, 0, 0) = 14
            setNext(11, 12) = 11
            setNext(12, 13) = 12
            setNext(13, 14) = 13
            setNext(14, 10) = 14
            range(12, false) = -1073741825
            range(11, false) = MIN
            """);
        Script.run("11: a counter upwards ends with the greatest int, and then all ints", """
            add(2, 0, 0, 0) = 0
            add(1, 1, 0, 0) = 1
            add(3, 0, 1, 0) = 2
            setNext(0, 2) = 0
            # 1, 2, 3, 7, 15, .. 2^31 - 1 in round 32, all ints in round 33, and a round without a change.
            rounds() = 34
            range(0, false) = MIN
            range(0, true) = MAX
            range(2, false) = MIN
            range(2, true) = MAX
            """);
    }

    private static void widthsOfRanges() {
        for (int n = 1; n <= 12; n++) {
            int power = 1 << n;
            widthOf("13: unsigned, 2^n - 1 has the width n", 0, power - 1, n);
            if (n < 12) {
                widthOf("13: unsigned, 2^n has the width n + 1", 0, power, n + 1);
            }
            widthOf("13: signed, -2^(n-1) has the width n", -(power / 2), -1, n);
            widthOf("13: signed, -2^(n-1) - 1 has the width n + 1", -(power / 2) - 1, -1, n + 1);
            widthOf("13: signed, 2^(n-1) - 1 has the width n", -1, power / 2 - 1, n);
            widthOf("13: signed, 2^(n-1) has the width n + 1", -1, power / 2, n + 1);
        }
        widthOf("13: at least 1", 0, 0, 1);
        widthOf("13: -4096 and 4095", -4096, 4095, 13);
        Script.run("13: the widest ranges", BIG + """
            width(2, true) = 31
            width(3, true) = 30
            width(4, true) = 31
            width(5, true) = 1
            width(6, true) = 31
            width(7, true) = 32
            add(3, 6, 5, 0) = 10
            range(10, false) = -1073741825
            width(10, true) = 32
            add(3, 4, 4, 0) = 11
            range(11, false) = MIN
            range(11, true) = MAX
            width(11, true) = 32
            """);
    }

    private static void widthOf(String sentence, int least, int greatest, int due) {
        Script.run(sentence + ": " + least + " to " + greatest, "add(0, " + least + ", " + greatest + ", 0) = 0\n"
                + "width(0, true) = " + due + "\nsetOutput(0, true) = false\nwidth(0, false) = " + due
                + "\nisSigned(0) = " + (least < 0) + "\n");
    }

    private static void signals() {
        String two = "add(0, 0, 9, 0) = 0\nadd(2, 3, 0, 0) = 1\nrange(0, true) = 9\nrange(1, false) = 3\n";
        for (String wrong : new String[] {"-1", "2", "24", "MIN", "MAX"}) {
            for (String end : new String[] {"false", "true"}) {
                Script.run("10: there is no such signal", two
                        + "! range(" + wrong + ", " + end + ") = throws.IndexOutOfBoundsException\n");
                Script.run("13: there is no such signal", two
                        + "! width(" + wrong + ", " + end + ") = throws.IndexOutOfBoundsException\n");
            }
        }
    }
}
