/** The boundary cases of promises 25 to 27: the input, texts and their faults. */
public final class EdgeTextTest {
    private static final String NO_FAULT = " = throws.NoSuchElementException\n";
    private static final String REFUSED = " = throws.IllegalArgumentException\n";

    public static void main(String[] args) {
        lengthOfInput();
        charactersOfInput();
        emptyInput();
        longestTexts();
        numbers();
        digits();
        endsTooEarly();
        cannotStandThere();
        constantsOutOfRange();
        signalsThatDoNotExist();
        full();
        noRegister();
        orderOfFaults();
        nothingChanges();
        latestRead();
        faultArguments();
        Script.finish();
    }

    private static String feeding(String text) {
        return text.isEmpty() ? "" : "text(\"" + text + "\") = " + text.length() + "\n";
    }

    private static void lengthOfInput() {
        Script.run("25: the 80th character is taken, an 81st one is refused", feeding("0".repeat(79)) + """
            feed('0') = 80
            ! feed('0') = throws.IllegalStateException
            ! feed(';') = throws.IllegalStateException
            ! feed(0) = throws.IllegalStateException
            ! feed(65535) = throws.IllegalStateException
            read() = -1
            fault(1, 1) = 2
            feed('0') = 1
            """);
        Script.run("25: the input is empty at first, and behind each read", """
            feed('k') = 1
            feed('5') = 2
            read() = 1
            feed('k') = 1
            read() = -1
            feed('k') = 1
            feed('6') = 2
            read() = 1
            signal(1, 1) = 6
            """);
        Script.run("25: 80 characters again behind a read", feeding("o".repeat(80)) + "! feed('o')"
                + " = throws.IllegalStateException\nread() = -1\n" + feeding("o".repeat(80)) + "! feed('o')"
                + " = throws.IllegalStateException\n");
        Script.run("25: the refused characters are not in the input", feeding("k1;".repeat(26) + "k1")
                + "feed('1') = throws.IllegalStateException\nread() = -1\nfault(0, 1) = 24\nfault(1, 0) = 3\n");
    }

    private static void charactersOfInput() {
        for (int code : new int[] {0, 9, 10, 32, 47, 58, 127, 128, 178, 255, 256, 304, 1632, 55296, 65296, 65535}) {
            Script.run("25: any character can be fed, but not stand in a number: " + code, "feed('k') = 1\nfeed(" + code
                    + ") = 2\nread() = -1\nfault(1, 0) = 2\nfault(1, 1) = 1\n");
            if (code != 58) {
                Script.run("26: any character can be fed, but not stand behind an item: " + code, "feed('k') = 1\n"
                        + "feed('7') = 2\nfeed(" + code + ") = 3\nread() = -1\nfault(0, 1) = 0\nfault(1, 1) = 2\n");
            }
            Script.run("26: any character can be fed, but not begin an item: " + code, "feed(" + code
                    + ") = 1\nfeed('7') = 2\nread() = -1\nfault(1, 1) = 0\n");
        }
    }

    private static void emptyInput() {
        Script.run("26: the empty input is no text", """
            read() = -1
            fault(0, 0) = 1
            fault(0, 1) = 0
            fault(1, 0) = 2
            fault(1, 1) = 0
            fault(2, 0) = throws.NoSuchElementException
            count() = 0
            """);
        Script.run("26: the input is empty behind a read", """
            text("k5") = 2
            read() = 1
            read() = -1
            fault(0, 1) = 0
            fault(1, 0) = 2
            fault(1, 1) = 0
            count() = 1
            """);
        Script.run("26: no empty items", """
            text(";k5") = 3
            read() = -1
            fault(0, 1) = 0
            fault(1, 1) = 0
            text("k5;") = 3
            read() = -1
            fault(0, 1) = 1
            fault(1, 1) = 3
            text("k5;;k5") = 6
            read() = -1
            fault(0, 1) = 1
            fault(1, 1) = 3
            count() = 0
            """);
    }

    private static void longestTexts() {
        Script.run("26: one item", "text(\"r0\") = 2\nread() = 1\n");
        Script.run("26: 80 characters with 27 items", "add(2, 0, 0, 0) = 0\n" + feeding("o0;".repeat(26) + "o0") + """
            read() = 27
            signal(0, 5) = 1
            """);
        Script.run("26: 80 characters, which end with a semicolon too early", "add(2, 0, 0, 0) = 0\n"
                + feeding("o0;".repeat(25) + "n0:0;") + "read() = -1\nfault(0, 1) = 26\nfault(1, 1) = 80\n");
        Script.run("26: 80 characters, of which the last one cannot stand there", "add(2, 0, 0, 0) = 0\n"
                + feeding("o0;".repeat(26) + "o;") + "read() = -1\nfault(0, 1) = 26\nfault(1, 1) = 79\nsignal(0, 5) = 0\n");
        Script.run("26: 80 characters, of which the last item cannot be carried out", "add(2, 0, 0, 0) = 0\n"
                + feeding("o0;".repeat(26) + "o1") + "read() = -1\nfault(0, 1) = 26\nfault(1, 0) = 3\nfault(1, 1) = 1\n"
                + "fault(2, 0) = 5\nsignal(0, 5) = 0\n");
        Script.run("26: 24 signals by one text", feeding("k1;".repeat(23) + "23?22:21") + "read() = -1\n"
                + feeding("k1;".repeat(23) + "22?21:20") + "read() = 24\ncount() = 24\nsignal(23, 0) = 12\n");
    }

    private static void taken(String text, int what, int due) {
        Script.run("26: " + text, "text(\"k1;k2;r3\") = 8\nread() = 3\n" + feeding(text) + "read() = 1\nsignal(3, " + what
                + ") = " + due + "\n");
    }

    private static void numbers() {
        for (String letter : new String[] {"k", "r"}) {
            taken(letter + "0", 1, 0);
            taken(letter + "-0", 1, 0);
            taken(letter + "0000", 1, 0);
            taken(letter + "-0000", 1, 0);
            taken(letter + "9", 1, 9);
            taken(letter + "10", 1, 10);
            taken(letter + "999", 1, 999);
            taken(letter + "0012", 1, 12);
            taken(letter + "-0012", 1, -12);
            taken(letter + "4095", 1, 4095);
            taken(letter + "-4096", 1, -4096);
        }
        taken("i-4096:4095", 1, -4096);
        taken("i-4096:4095", 2, 4095);
        taken("i-4096:-4096", 2, -4096);
        taken("i4095:4095", 1, 4095);
        taken("i0:0", 2, 0);
        taken("i-1:0", 1, -1);
        fails("k00000", 0, 5);
        fails("k-00000", 0, 6);
        fails("k40950", 0, 5);
        fails("r10000", 0, 5);
        fails("i00000:1", 0, 5);
        fails("i1:00000", 0, 7);
        fails("i-0000:-00000", 0, 12);
        fails("k--1", 0, 2);
        fails("k-", 0, 2);
        fails("k+1", 0, 1);
        fails("i-:1", 0, 2);
        fails("i1:-", 0, 4);
    }

    private static void digits() {
        taken("0+2", 2, 2);
        taken("00+02", 2, 2);
        taken("2+0", 1, 2);
        taken("02?01:00", 1, 2);
        taken("02?01:00", 2, 1);
        taken("0l0", 2, 0);
        taken("0l00", 2, 0);
        taken("0l15", 2, 15);
        taken("0h09", 2, 9);
        taken("0h15", 2, 15);
        fails("000+0", 0, 2);
        fails("0+000", 0, 4);
        fails("0?000:0", 0, 4);
        fails("0?0:000", 0, 6);
        fails("0l000", 0, 4);
        fails("0h015", 0, 4);
        fails("n000:0", 0, 3);
        fails("n0:000", 0, 5);
        fails("o000", 0, 3);
    }

    private static void fails(String text, int item, int offset) {
        Script.run("27: the text " + text, feeding(text) + "read() = -1\nfault(0, 0) = 1\nfault(0, 1) = " + item
                + "\nfault(1, 0) = 2\nfault(1, 1) = " + offset + "\nfault(2, 0)" + NO_FAULT + "fault(2, 1)" + NO_FAULT
                + "count() = 0\n");
    }

    /** The beginnings of an item, from the empty one to the one that lacks only the last character. */
    private static void cut(String item) {
        for (int length = 0; length < item.length(); length++) {
            String beginning = item.substring(0, length);
            fails(beginning, 0, length);
            fails("k1;" + beginning, 1, 3 + length);
        }
    }

    private static void endsTooEarly() {
        cut("i-5:-6");
        cut("i5:6");
        cut("k-5");
        cut("k5");
        cut("r-5");
        cut("r5");
        for (char sign : "+-*&|^<lh".toCharArray()) {
            cut("1" + sign + "2");
            cut("11" + sign + "2");
        }
        cut("1?2:3");
        cut("11?22:3");
        cut("n1:2");
        cut("n11:2");
        cut("o1");
    }

    private static void cannotStandThere() {
        String wrong = "x /.>=%_KIRNOLH~,!@";
        for (char sign : wrong.toCharArray()) {
            fails("" + sign, 0, 0);
            fails("k1;" + sign, 1, 3);
            fails("k" + sign, 0, 1);
            fails("r-" + sign + "1", 0, 2);
            fails("i1" + sign + "2", 0, 2);
            fails("i1:" + sign, 0, 3);
            fails("i1:2" + sign, 0, 4);
            fails("1" + sign + "2", 0, 1);
            fails("12" + sign + "2", 0, 2);
            fails("1+" + sign, 0, 2);
            fails("1+2" + sign, 0, 3);
            fails("1l" + sign, 0, 2);
            fails("1h2" + sign, 0, 3);
            fails("1?" + sign, 0, 2);
            fails("1?2" + sign + "3", 0, 3);
            fails("1?2:" + sign, 0, 4);
            fails("1?2:3" + sign, 0, 5);
            fails("n" + sign, 0, 1);
            fails("n1" + sign, 0, 2);
            fails("n1:" + sign, 0, 3);
            fails("n1:2" + sign, 0, 4);
            fails("o" + sign, 0, 1);
            fails("o1" + sign, 0, 2);
        }
        fails("1+2+3", 0, 3);
        fails("1?2:3:4", 0, 5);
        fails("i1:2:3", 0, 4);
        fails("k1:2", 0, 2);
        fails("n1", 0, 2);
        fails("1+-2", 0, 2);
        fails("-1+2", 0, 0);
        fails("n-1:2", 0, 1);
        fails("n1:-2", 0, 3);
        fails("o-1", 0, 1);
        fails("1l-1", 0, 2);
        fails("1?-2:3", 0, 2);
        fails("o1o2", 0, 2);
        fails("k1k2", 0, 2);
        fails("k1;k2;k3;k4x", 3, 11);
        fails(":", 0, 0);
        fails("l1", 0, 0);
        fails("?1:2", 0, 0);
        // The first character that cannot stand there, not the last one.
        fails("k1;x;y", 1, 3);
    }

    /** Behind three signals, an input, a constant and a register, a text that cannot be carried out. */
    private static void refused(String text, int item, int signals, int kind, int operand) {
        Script.run("27: the item of " + text, "text(\"i0:9;k3;r1\") = 10\nread() = 3\n" + feeding(text)
                + "read() = -1\nfault(0, 0) = 1\nfault(0, 1) = " + item + "\nfault(1, 0) = 3\nfault(1, 1) = " + signals
                + "\nfault(2, 0) = " + kind + "\nfault(2, 1) = " + operand + "\nfault(3, 0)" + NO_FAULT + "count() = 3\n");
    }

    private static void constantsOutOfRange() {
        for (String letter : new String[] {"k", "r"}) {
            refused(letter + "4096", 0, 3, 4, 0);
            refused(letter + "-4097", 0, 3, 4, 0);
            refused(letter + "9999", 0, 3, 4, 0);
            refused(letter + "-9999", 0, 3, 4, 0);
        }
        refused("i-4097:0", 0, 3, 4, 0);
        refused("i4096:4096", 0, 3, 4, 0);
        refused("i4096:0", 0, 3, 4, 0);
        refused("i0:4096", 0, 3, 4, 1);
        refused("i0:-4097", 0, 3, 4, 1);
        refused("i4095:4094", 0, 3, 4, 1);
        refused("i-4095:-4096", 0, 3, 4, 1);
        refused("i1:0", 0, 3, 4, 1);
        refused("i0:-1", 0, 3, 4, 1);
        refused("0l16", 0, 3, 4, 1);
        refused("0h16", 0, 3, 4, 1);
        refused("2l99", 0, 3, 4, 1);
        refused("2h99", 0, 3, 4, 1);
    }

    private static void signalsThatDoNotExist() {
        for (char sign : "+-*&|^<".toCharArray()) {
            taken("2" + sign + "2", 1, 2);
            refused("3" + sign + "0", 0, 3, 5, 0);
            refused("0" + sign + "3", 0, 3, 5, 1);
            refused("3" + sign + "3", 0, 3, 5, 0);
            refused("99" + sign + "0", 0, 3, 5, 0);
            refused("0" + sign + "99", 0, 3, 5, 1);
        }
        refused("3l0", 0, 3, 5, 0);
        refused("3h15", 0, 3, 5, 0);
        refused("3?0:0", 0, 3, 5, 0);
        refused("2?3:0", 0, 3, 5, 1);
        refused("2?2:3", 0, 3, 5, 2);
        refused("2?3:3", 0, 3, 5, 1);
        refused("n3:0", 0, 3, 5, 0);
        refused("n2:3", 0, 3, 5, 1);
        refused("n99:99", 0, 3, 5, 0);
        refused("o3", 0, 3, 5, 0);
        refused("o99", 0, 3, 5, 0);
        // The signals of earlier items are there, those of later ones are not.
        refused("k1;3+3;5+0", 2, 5, 5, 0);
        refused("o3;k1", 0, 3, 5, 0);
        Script.run("27: without signals", "text(\"o0\") = 2\nread() = -1\nfault(1, 1) = 0\nfault(2, 0) = 5\n");
        Script.run("26: the last signal is taken by n and o", """
            text("r0;r1;n0:1;n1:1;o1") = 18
            read() = 5
            signal(0, 4) = 1
            signal(1, 4) = 1
            signal(1, 5) = 1
            """);
    }

    private static void full() {
        String many = feeding("k1;".repeat(22) + "r1") + "read() = 23\n";
        String[] items = {"i0:1", "k1", "r1", "0+1", "0-1", "0*1", "0&1", "0|1", "0^1", "0<1", "0l1", "0h1", "0?1:2"};
        for (String item : items) {
            Script.run("27: the 24th signal is added, a 25th one is not: " + item, many + feeding(item) + "read() = 1\n"
                    + "count() = 24\n" + feeding(item) + """
                read() = -1
                fault(0, 1) = 0
                fault(1, 0) = 3
                fault(1, 1) = 24
                fault(2, 0) = 6
                fault(2, 1) = 0
                count() = 24
                """);
            Script.run("27: the 25th signal in the same text: " + item, many + feeding(item + ";" + item) + """
                read() = -1
                fault(0, 1) = 1
                fault(1, 1) = 24
                fault(2, 0) = 6
                count() = 23
                """);
        }
        Script.run("26: next signals and outputs can be set with 24 signals", many + """
            text("k7;n22:23;o23;o0") = 16
            read() = 4
            text("n22:0;o1") = 8
            read() = 2
            signal(22, 4) = 0
            signal(1, 5) = 1
            """);
    }

    private static void noRegister() {
        String[] items = {"i0:1", "k1", "0+0", "0-0", "0*0", "0&0", "0|0", "0^0", "0<0", "0l1", "0h1", "0?0:0"};
        for (String item : items) {
            Script.run("27: a signal is no register: " + item, feeding("r0;" + item) + "read() = 2\n" + """
                text("n1:0") = 4
                read() = -1
                fault(0, 1) = 0
                fault(1, 0) = 3
                fault(1, 1) = 2
                fault(2, 0) = 7
                fault(2, 1) = 0
                """);
        }
        refused("k1;n3:0", 1, 4, 7, 0);
    }

    private static void orderOfFaults() {
        // The operands in their order, each for the kinds 4 and 5.
        refused("3l16", 0, 3, 5, 0);
        refused("i-4097:4096", 0, 3, 4, 0);
        refused("i4096:-4097", 0, 3, 4, 0);
        refused("n0:3", 0, 3, 5, 1);
        refused("n3:3", 0, 3, 5, 0);
        refused("n0:1", 0, 3, 7, 0);
        // A fault of the text comes before one of an item, though it stands behind it.
        fails("o99;k9999;", 2, 10);
        // The first item at fault, not the last one.
        refused("k1;o99;k9999", 1, 4, 5, 0);
        String many = feeding("k1;".repeat(23) + "k1") + "read() = 24\n";
        String[][] rows = {
            {"k4096", "4", "0"}, {"i1:0", "4", "1"}, {"24+0", "5", "0"}, {"0+24", "5", "1"}, {"0l16", "4", "1"},
            {"0?1:24", "5", "2"}, {"0?1:23", "6", "0"}, {"n0:24", "5", "1"}, {"n0:23", "7", "0"}, {"o24", "5", "0"},
        };
        for (String[] row : rows) {
            Script.run("27: the operands come before the kinds 6 and 7: " + row[0], many + feeding(row[0])
                    + "read() = -1\nfault(1, 1) = 24\nfault(2, 0) = " + row[1] + "\nfault(2, 1) = " + row[2] + "\n");
        }
    }

    private static final String STANDING = """
            text("i0:9;r1;0+1;n1:2;o1") = 19
            read() = 5
            setPhase(2, 3) = 0
            setInput(0, 4) = 0
            run(5) = 0
            saveSnapshot() = 3
            setInput(0, 9) = 4
            run(2) = 0
            """;

    private static void nothingChanges() {
        String unlike = "text(\"x\") = 1\nread() = -1\n";
        String due = Probe.after(Script.callsOf("26: a fault", STANDING + unlike));
        String[] texts = {
            "", "o0;n1:0;k5;0*1;x", "o0;n1:0;k5;0*1;k5000", "i1:2;i3:4;r5;n5:0;o5;o99", "n1:1;o2;n0:0",
            "o0;" + "k1;".repeat(21) + "k1",
        };
        for (String text : texts) {
            String lines = STANDING + feeding(text) + "read() = -1\n" + unlike;
            String got = Probe.after(Script.callsOf("26: the text " + text, lines));
            if (!got.equals(due)) {
                Script.report("26: the text " + text + " changes more than the input and the faults");
            }
        }
    }

    private static void latestRead() {
        Script.run("27: no read yet", "! fault(0, 0)" + NO_FAULT + "! fault(1, 0)" + NO_FAULT + "! fault(2, 0)" + NO_FAULT);
        Script.run("27: a read without a fault has none", """
            text("o9") = 2
            read() = -1
            fault(0, 0) = 1
            fault(1, 0) = 3
            fault(2, 0) = 5
            text("k9") = 2
            fault(2, 0) = 5
            read() = 1
            ! fault(0, 0) = throws.NoSuchElementException
            ! fault(0, 1) = throws.NoSuchElementException
            ! fault(1, 0) = throws.NoSuchElementException
            ! fault(1, 1) = throws.NoSuchElementException
            ! fault(2, 0) = throws.NoSuchElementException
            ! fault(2, 1) = throws.NoSuchElementException
            """);
        Script.run("27: a fault of the text has no level 2, even behind one that had", """
            text("o9") = 2
            read() = -1
            fault(2, 0) = 5
            read() = -1
            fault(1, 0) = 2
            ! fault(2, 0) = throws.NoSuchElementException
            """);
        Script.run("27: the faults stay, whatever else is called", """
            text("k1;o9") = 5
            read() = -1
            add(2, 0, 0, 0) = 0
            setOutput(0, true) = false
            saveSnapshot() = 1
            run(5) = 0
            removeLast() = 2
            clear() = 0
            restoreSnapshot() = 1
            feed('k') = 1
            fault(0, 1) = 1
            fault(1, 1) = 1
            fault(2, 0) = 5
            """);
    }

    private static void faultArguments() {
        String faulty = "text(\"o9\") = 2\nread() = -1\n";
        Script.run("27: levels from 0 to 2, what from 0 to 1", faulty + """
            fault(0, 0) = 1
            fault(0, 1) = 0
            fault(1, 0) = 3
            fault(1, 1) = 0
            fault(2, 0) = 5
            fault(2, 1) = 0
            """);
        for (String level : new String[] {"3", "4", "MAX"}) {
            Script.run("27: there is no fault of this level", faulty + "! fault(" + level + ", 0)" + NO_FAULT
                    + "! fault(" + level + ", 1)" + NO_FAULT);
        }
        for (String level : new String[] {"-1", "-2", "MIN"}) {
            Script.run("27: the level is negative", faulty + "! fault(" + level + ", 0)" + REFUSED);
            Script.run("27: the level is negative, without faults", "! fault(" + level + ", 0)" + REFUSED);
        }
        for (String what : new String[] {"-1", "2", "MIN", "MAX"}) {
            Script.run("27: what is not valid", faulty + "! fault(0, " + what + ")" + REFUSED);
            Script.run("27: what is not valid comes before a fault that is not there", "! fault(0, " + what + ")" + REFUSED
                    + faulty + "! fault(3, " + what + ")" + REFUSED + "! fault(-1, " + what + ")" + REFUSED);
        }
    }
}
