/** Promises 10 and 11, and the widths of ranges of promise 13. */
public final class RangeTest {
    public static void main(String[] args) {
        arithmetic();
        bitwise();
        lessAndChoice();
        rounds();
        widening();
        widthsOfRanges();
        Script.finish();
    }

    /** The range of a signal of the kind over two inputs with the ranges told. */
    private static void over(int kind, int[] a, int[] b, int least, int greatest) {
        Script.run("kind " + kind + " over " + a[0] + ".." + a[1] + " and " + b[0] + ".." + b[1],
                "add(0, " + a[0] + ", " + a[1] + ", 0) = 0\n"
                + "add(0, " + b[0] + ", " + b[1] + ", 0) = 1\n"
                + "add(" + kind + ", 0, 1, 0) = 2\n"
                + "range(2, false) = " + least + "\nrange(2, true) = " + greatest + "\n");
    }

    private static int[] from(int least, int greatest) {
        return new int[] {least, greatest};
    }

    private static void arithmetic() {
        over(3, from(-3, 12), from(5, 7), 2, 19);
        over(4, from(-3, 12), from(5, 7), -10, 7);
        over(5, from(-3, 12), from(5, 7), -21, 84);
        over(5, from(-3, 12), from(-7, 5), -84, 60);
        over(5, from(-3, -2), from(-7, -5), 10, 21);
        Script.run("promise 10: shifts, and no int", """
            add(0, -4096, 4095, 0) = 0
            range(0, false) = -4096
            range(0, true) = 4095
            add(9, 0, 15, 0) = 1
            range(1, false) = -134217728
            range(1, true) = 134184960
            add(9, 1, 4, 0) = 2
            range(2, false) = -2147483648
            range(2, true) = 2146959360
            add(9, 1, 5, 0) = 3
            range(3, false) = -2147483648
            range(3, true) = 2147483647
            add(10, 0, 3, 0) = 4
            range(4, false) = -512
            range(4, true) = 511
            add(10, 0, 15, 0) = 5
            range(5, false) = -1
            range(5, true) = 0
            add(9, 0, 0, 0) = 6
            range(6, true) = 4095
            add(3, 2, 1, 0) = 7
            range(7, false) = -2147483648
            range(7, true) = 2147483647
            add(1, -1, 0, 0) = 8
            add(5, 2, 8, 0) = 9
            range(9, false) = -2147483648
            range(9, true) = 2147483647
            add(4, 8, 2, 0) = 10
            range(10, false) = -2146959361
            range(10, true) = 2147483647
            ! range(11, true) = throws.IndexOutOfBoundsException
            range(-1, false) = throws.IndexOutOfBoundsException
            """);
        Script.run("promise 10: only the greatest result is no int", """
            add(1, 4095, 0, 0) = 0
            add(9, 0, 15, 0) = 1
            add(9, 1, 4, 0) = 2
            range(2, false) = 2146959360
            add(3, 2, 1, 0) = 3
            range(3, false) = -2147483648
            range(3, true) = 2147483647
            add(5, 2, 2, 0) = 4
            range(4, false) = -2147483648
            """);
    }

    private static void bitwise() {
        over(6, from(3, 12), from(5, 9), 0, 9);
        over(7, from(3, 12), from(5, 9), 0, 15);
        over(8, from(3, 16), from(5, 9), 0, 31);
        over(7, from(3, 15), from(5, 9), 0, 15);
        over(7, from(0, 0), from(0, 0), 0, 0);
        over(8, from(0, 1), from(0, 0), 0, 1);
        over(6, from(-3, 12), from(5, 90), 0, 90);
        over(6, from(5, 90), from(-3, 12), 0, 90);
        over(6, from(-3, 12), from(-5, 90), -128, 127);
        over(6, from(-3, -1), from(-5, -2), -8, 7);
        over(6, from(-1, -1), from(-1, -1), -1, 0);
        over(7, from(-3, 12), from(5, 9), -16, 15);
        over(8, from(2, 3), from(-17, 9), -32, 31);
        over(8, from(-17, 9), from(2, 3), -32, 31);
        over(8, from(-17, 9), from(-40, 9), -64, 63);
        over(8, from(-40, 9), from(-17, 9), -64, 63);
        over(8, from(2, 3), from(-16, 9), -16, 15);
        over(7, from(-1, 0), from(0, 1), -2, 1);
        over(7, from(-1, 16), from(0, 1), -32, 31);
    }

    private static void lessAndChoice() {
        over(11, from(1, 5), from(5, 9), 0, 1);
        over(11, from(1, 4), from(5, 9), 1, 1);
        over(11, from(9, 12), from(5, 9), 0, 0);
        over(11, from(8, 12), from(5, 9), 0, 1);
        over(11, from(5, 5), from(5, 5), 0, 0);
        Script.run("promise 10: choice", """
            add(0, 3, 9, 0) = 0
            add(0, -5, 4, 0) = 1
            add(1, 0, 0, 0) = 2
            add(12, 0, 0, 1) = 3
            range(3, false) = 3
            range(3, true) = 9
            add(12, 2, 0, 1) = 4
            range(4, false) = -5
            range(4, true) = 4
            add(12, 1, 0, 1) = 5
            range(5, false) = -5
            range(5, true) = 9
            add(0, -5, -1, 0) = 6
            add(12, 6, 0, 1) = 7
            range(7, false) = 3
            range(7, true) = 9
            add(0, 0, 1, 0) = 8
            add(12, 8, 0, 1) = 9
            range(9, false) = -5
            range(9, true) = 9
            add(12, 8, 1, 0) = 10
            range(10, false) = -5
            range(10, true) = 9
            add(0, 1, 2, 0) = 11
            add(12, 11, 0, 1) = 12
            range(12, false) = 3
            range(12, true) = 9
            """);
    }

    private static void rounds() {
        Script.run("promise 11: registers in ascending order, as they are then", """
            add(1, 9, 0, 0) = 0
            add(2, 0, 0, 0) = 1
            add(2, 0, 0, 0) = 2
            add(2, 0, 0, 0) = 3
            rounds() = 1
            setNext(1, 0) = 1
            rounds() = 2
            setNext(2, 1) = 2
            setNext(3, 2) = 3
            rounds() = 2
            range(3, true) = 9
            setNext(1, 2) = 0
            setNext(2, 3) = 1
            setNext(3, 0) = 2
            rounds() = 4
            range(1, false) = 0
            range(1, true) = 9
            """);
        Script.run("promise 11: a value that passes on in later rounds is widened", """
            add(1, 9, 0, 0) = 0
            add(1, -9, 0, 0) = 1
            add(2, 0, 0, 0) = 2
            add(2, 0, 0, 0) = 3
            add(2, 0, 0, 0) = 4
            add(2, 0, 0, 0) = 5
            add(0, 0, 1, 0) = 6
            add(12, 6, 0, 1) = 7
            setNext(2, 3) = 2
            setNext(3, 4) = 3
            setNext(4, 5) = 4
            setNext(5, 7) = 5
            rounds() = 5
            range(5, true) = 9
            range(3, false) = -9
            range(3, true) = 9
            range(2, false) = -16
            range(2, true) = 15
            """);
        Script.run("promise 11: no registers", """
            add(0, 0, 9, 0) = 0
            add(3, 0, 0, 0) = 1
            rounds() = 1
            """);
    }

    private static void widening() {
        Script.run("promise 11: a counter downwards from above 0", """
            add(2, 100, 0, 0) = 0
            add(1, 7, 0, 0) = 1
            add(4, 0, 1, 0) = 2
            setNext(0, 2) = 0
            range(0, true) = 2147483647
            range(0, false) = -2147483648
            # 93, 86, 79, 0, -8, -16, .. -2^31 in round 33, then all ints by the difference.
            rounds() = 35
            range(2, true) = 2147483647
            """);
        Script.run("promise 11: a counter with a limit", """
            add(2, -20, 0, 0) = 0
            add(1, 3, 0, 0) = 1
            add(3, 0, 1, 0) = 2
            add(1, 50, 0, 0) = 3
            add(11, 2, 3, 0) = 4
            add(1, 63, 0, 0) = 5
            add(6, 2, 5, 0) = 6
            setNext(0, 6) = 0
            range(0, false) = -20
            range(0, true) = 63
            rounds() = 2
            """);
        Script.run("promise 11: a least value that falls above 0 becomes 0", """
            add(2, 100, 0, 0) = 0
            add(10, 0, 1, 0) = 1
            setNext(0, 1) = 0
            # 50, 25, 12, then 6 in the fourth round.
            rounds() = 5
            range(0, false) = 0
            range(0, true) = 100
            width(0, true) = 7
            """);
        Script.run("promise 11: a least value that falls to 0 stays there", """
            add(2, 8, 0, 0) = 0
            add(10, 0, 1, 0) = 1
            setNext(0, 1) = 0
            # 4, 2, 1, then 0 in the fourth round.
            rounds() = 5
            range(0, false) = 0
            range(0, true) = 8
            """);
        Script.run("promise 11: powers of two are kept", """
            add(1, -16, 0, 0) = 0
            add(1, 15, 0, 0) = 1
            add(0, 0, 1, 0) = 2
            add(12, 2, 0, 1) = 3
            add(2, 0, 0, 0) = 4
            add(2, 0, 0, 0) = 5
            add(2, 0, 0, 0) = 6
            add(2, 0, 0, 0) = 7
            setNext(4, 5) = 4
            setNext(5, 6) = 5
            setNext(6, 7) = 6
            setNext(7, 3) = 7
            rounds() = 5
            range(4, false) = -16
            range(4, true) = 15
            """);
        Script.run("promise 11: a greatest value that rises below 0 becomes 0", """
            add(2, -100, 0, 0) = 0
            add(10, 0, 1, 0) = 1
            setNext(0, 1) = 0
            # -50, -25, -13, then -7 in the fourth round.
            rounds() = 5
            range(0, false) = -100
            range(0, true) = 0
            range(1, true) = 0
            """);
    }

    private static void widthsOfRanges() {
        int[][] due = {
            {0, 0, 1}, {0, 1, 1}, {1, 2, 2}, {3, 3, 2}, {0, 4, 3}, {0, 4095, 12}, {-1, -1, 1}, {-1, 0, 1},
            {-1, 1, 2}, {-2, -2, 2}, {-2, 1, 2}, {-3, 1, 3}, {-2, 2, 3}, {-4096, 4095, 13}, {-4096, -4096, 13},
        };
        for (int[] row : due) {
            Script.run("promise 13: a range from " + row[0] + " to " + row[1],
                    "add(0, " + row[0] + ", " + row[1] + ", 0) = 0\nwidth(0, true) = " + row[2]
                    + "\nwidth(0, false) = 0\n");
        }
        Script.run("promise 13: great widths of ranges", """
            add(0, 0, 4095, 0) = 0
            add(9, 0, 15, 0) = 1
            width(1, true) = 27
            add(9, 1, 4, 0) = 2
            width(2, true) = 31
            add(9, 1, 5, 0) = 3
            width(3, true) = 32
            ! width(4, true) = throws.IndexOutOfBoundsException
            width(-1, false) = throws.IndexOutOfBoundsException
            """);
    }
}
