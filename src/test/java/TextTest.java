/** Promises 25 to 27: texts. */
public final class TextTest {
    public static void main(String[] args) {
        feed();
        items();
        faultsOfText();
        faultsOfItems();
        unchanged();
        faultExceptions();
        Script.finish();
    }

    private static void feed() {
        StringBuilder eighty = new StringBuilder();
        for (int i = 0; i < 80; i++) {
            eighty.append("feed('0') = ").append(i + 1).append('\n');
        }
        Script.run("promise 25", eighty + """
            feed('0') = throws.IllegalStateException
            feed(';') = throws.IllegalStateException
            read() = -1
            fault(1, 1) = 2
            feed('k') = 1
            feed('7') = 2
            read() = 1
            signal(0, 1) = 7
            """);
        WidthMinimizer object = new WidthMinimizer();
        object.feed('k');
        object.feed((char) 0);
        if (object.feed((char) 65535) != 3 || object.read() != -1 || object.fault(1, 1) != 1) {
            Script.report("promise 25: strange characters");
        }
    }

    private static void items() {
        Script.run("promise 26: all items", """
            text("i-5:12;k-4096;r4095;0+1;0-1;0*1;0&1;0|1;0^1;0<1") = 47
            read() = 10
            text("0l15;0h0;1?2:3;n2:12;o0;o12") = 27
            read() = 6
            count() = 13
            signal(0, 0) = 0
            signal(0, 1) = -5
            signal(0, 2) = 12
            signal(1, 0) = 1
            signal(1, 1) = -4096
            signal(2, 0) = 2
            signal(2, 1) = 4095
            signal(2, 4) = 12
            signal(3, 0) = 3
            signal(3, 1) = 0
            signal(3, 2) = 1
            signal(4, 0) = 4
            signal(5, 0) = 5
            signal(6, 0) = 6
            signal(7, 0) = 7
            signal(8, 0) = 8
            signal(9, 0) = 11
            signal(10, 0) = 9
            signal(10, 2) = 15
            signal(10, 3) = 0
            signal(11, 0) = 10
            signal(11, 2) = 0
            signal(12, 0) = 12
            signal(12, 1) = 1
            signal(12, 2) = 2
            signal(12, 3) = 3
            signal(0, 5) = 1
            signal(12, 5) = 1
            signal(1, 5) = 0
            value(0, false) = -5
            value(2, false) = 4095
            """);
        Script.run("promise 26: leading zeros, a minus before 0, and the longest text", """
            text("k0007;k-0;00+01;r-0012") = 22
            read() = 4
            signal(0, 1) = 7
            signal(1, 1) = 0
            signal(2, 2) = 1
            signal(3, 1) = -12
            text("o0;o1;o0;o1;o0;o1;o0;o1;o0;o1;o0;o1;o0;o1;o0;o1;o0;o1;o0;o1;o0;o1;o0;o1;o0;o1;o2") = 80
            read() = 27
            signal(2, 5) = 1
            # An item may use the signals of items before it.
            text("n3:4;k1") = 7
            read() = -1
            text("k1;n3:4") = 7
            read() = 2
            signal(3, 4) = 4
            """);
        Script.run("promise 26: the present inputs stay, new ones begin at a", """
            text("i1:9") = 4
            read() = 1
            setInput(0, 4) = 1
            text("i2:9;0+1") = 8
            read() = 2
            value(2, false) = 6
            text("0?1:2;0l3;o0;k3;r4") = 18
            read() = 5
            text("i2:3;i2:3;r2;n7:0;k6") = 20
            read() = -1
            text("i2:3;i2:3;r2;n9:0;k6") = 20
            read() = 5
            signal(7, 0) = 0
            signal(8, 2) = 3
            signal(9, 0) = 2
            signal(10, 1) = 6
            signal(10, 2) = 0
            """);
    }

    private static void fails(String text, int item, int offset) {
        Script.run("promise 27: the text " + text, (text.isEmpty() ? "" : "text(\"" + text + "\") = "
                + text.length() + "\n") + "read() = -1\nfault(0, 0) = 1\nfault(0, 1) = " + item
                + "\nfault(1, 0) = 2\nfault(1, 1) = " + offset
                + "\nfault(2, 0) = throws.NoSuchElementException\ncount() = 0\nfeed('k') = 1\n");
    }

    private static void faultsOfText() {
        fails("", 0, 0);
        fails(" ", 0, 0);
        fails(";", 0, 0);
        fails("x", 0, 0);
        fails("-1", 0, 0);
        fails("k", 0, 1);
        fails("k-", 0, 2);
        fails("k--1", 0, 2);
        fails("k+1", 0, 1);
        fails("k12345", 0, 5);
        fails("k-12345", 0, 6);
        fails("k1 ", 0, 2);
        fails("k1;", 1, 3);
        fails("k1;;k1", 1, 3);
        fails("k1;k2;0", 2, 7);
        fails("i1", 0, 2);
        fails("i1:", 0, 3);
        fails("i1;2", 0, 2);
        fails("i1:2:", 0, 4);
        fails("r", 0, 1);
        fails("r0:1", 0, 2);
        fails("n0", 0, 2);
        fails("n0:", 0, 3);
        fails("n-1:0", 0, 1);
        fails("n100:0", 0, 3);
        fails("o", 0, 1);
        fails("o123", 0, 3);
        fails("o-1", 0, 1);
        fails("123+1", 0, 2);
        fails("0+123", 0, 4);
        fails("0+-1", 0, 2);
        fails("0+", 0, 2);
        fails("0=1", 0, 1);
        fails("0>1", 0, 1);
        fails("0L1", 0, 1);
        fails("0l", 0, 2);
        fails("0l-1", 0, 2);
        fails("0h123", 0, 4);
        fails("0?1", 0, 3);
        fails("0?1;2", 0, 3);
        fails("0?1:", 0, 4);
        fails("0?:1", 0, 2);
        fails("0?1:2:3", 0, 5);
        fails("I1:2", 0, 0);
        // The whole input is parsed before the first item is carried out.
        fails("o99;k9999;x", 2, 10);
    }

    /** Three signals, an input, a constant and a register, and then a text with a fault. */
    private static void refused(String text, int item, int signals, int kind, int operand) {
        Script.run("promise 27: the item of " + text, "text(\"i0:9;k3;r1\") = 10\nread() = 3\n"
                + "text(\"" + text + "\") = " + text.length() + "\nread() = -1\nfault(0, 0) = 1\n"
                + "fault(0, 1) = " + item + "\nfault(1, 0) = 3\nfault(1, 1) = " + signals
                + "\nfault(2, 0) = " + kind + "\nfault(2, 1) = " + operand + "\ncount() = 3\n");
    }

    private static void faultsOfItems() {
        refused("k4096", 0, 3, 4, 0);
        refused("k-4097", 0, 3, 4, 0);
        refused("r9999", 0, 3, 4, 0);
        refused("r-9999", 0, 3, 4, 0);
        refused("i4096:0", 0, 3, 4, 0);
        refused("i-4097:9999", 0, 3, 4, 0);
        refused("i0:4096", 0, 3, 4, 1);
        refused("i3:2", 0, 3, 4, 1);
        refused("i-4:-5", 0, 3, 4, 1);
        refused("i0:-9999", 0, 3, 4, 1);
        refused("3+0", 0, 3, 5, 0);
        refused("0+3", 0, 3, 5, 1);
        refused("9*9", 0, 3, 5, 0);
        refused("3?3:3", 0, 3, 5, 0);
        refused("0?3:3", 0, 3, 5, 1);
        refused("0?0:3", 0, 3, 5, 2);
        // Unlike in add, the operands are looked at in their order.
        refused("3l16", 0, 3, 5, 0);
        refused("0l16", 0, 3, 4, 1);
        refused("0h99", 0, 3, 4, 1);
        refused("n3:0", 0, 3, 5, 0);
        refused("n0:3", 0, 3, 5, 1);
        refused("n2:3", 0, 3, 5, 1);
        refused("n0:1", 0, 3, 7, 0);
        refused("n1:2", 0, 3, 7, 0);
        refused("o3", 0, 3, 5, 0);
        refused("k1;k2;o2;0+4;0+9;k9999", 4, 6, 5, 1);
        refused("o0;n2:0;n2:3", 2, 3, 5, 1);
        String full = "text(\"k0;k0;k0;k0;k0;k0;k0;k0;k0;k0;k0;k0;k0;k0;k0;k0;k0;k0;k0;k0\") = 59\nread() = 20\n";
        Script.run("promise 27: 24 signals", full + """
            text("k1;k2;k3;k4;k5;o0") = 17
            read() = -1
            fault(0, 1) = 4
            fault(1, 0) = 3
            fault(1, 1) = 24
            fault(2, 0) = 6
            fault(2, 1) = 0
            count() = 20
            text("k1;k2;k3;k4;o0;n0:24;k5") = 23
            read() = -1
            fault(0, 1) = 5
            fault(2, 0) = 5
            fault(2, 1) = 1
            text("k1;k2;k3;k4;o0") = 14
            read() = 5
            fault(0, 0) = throws.NoSuchElementException
            # Operands come before the number of signals.
            text("k4096") = 5
            read() = -1
            fault(2, 0) = 4
            text("0+24") = 4
            read() = -1
            fault(2, 0) = 5
            fault(2, 1) = 1
            text("0+23") = 4
            read() = -1
            fault(2, 0) = 6
            text("o23") = 3
            read() = 1
            """);
    }

    private static void unchanged() {
        Script.run("promise 26: nothing changes but the input and the faults", """
            text("i0:9;r1;0+1;n1:2;o1") = 19
            read() = 5
            setPhase(2, 3) = 0
            setInput(0, 4) = 0
            run(5) = 0
            value(1, false) = 21
            text("o0;n1:0;k5;0*1;k5000") = 20
            read() = -1
            count() = 3
            signal(0, 5) = 0
            signal(1, 4) = 2
            signal(2, 6) = 3
            value(0, false) = 4
            value(1, false) = 21
            value(1, true) = 21
            demanded(0) = 15
            text("o0;n1:0;k5;x") = 12
            read() = -1
            signal(0, 5) = 0
            signal(1, 4) = 2
            value(1, true) = 21
            restart() = 5
            """);
    }

    private static void faultExceptions() {
        Script.run("promise 27: which faults there are", """
            fault(0, 0) = throws.NoSuchElementException
            fault(2147483647, 0) = throws.NoSuchElementException
            ! fault(-1, 0) = throws.IllegalArgumentException
            fault(0, 2) = throws.IllegalArgumentException
            fault(0, -1) = throws.IllegalArgumentException
            fault(9, 2) = throws.IllegalArgumentException
            text("o0") = 2
            fault(0, 0) = throws.NoSuchElementException
            read() = -1
            fault(2, 0) = 5
            fault(2, 1) = 0
            fault(3, 0) = throws.NoSuchElementException
            fault(3, 2) = throws.IllegalArgumentException
            ! fault(-1, 1) = throws.IllegalArgumentException
            fault(2, 2) = throws.IllegalArgumentException
            # Faults stay until the next call of read.
            add(0, 0, 9, 0) = 0
            removeLast() = 0
            text("k") = 1
            fault(2, 0) = 5
            read() = -1
            fault(1, 0) = 2
            fault(2, 0) = throws.NoSuchElementException
            text("k1") = 2
            read() = 1
            fault(0, 0) = throws.NoSuchElementException
            fault(0, 1) = throws.NoSuchElementException
            fault(1, 0) = throws.NoSuchElementException
            """);
    }
}
