import java.math.BigInteger;
import java.util.ArrayList;
import java.util.Arrays;
import java.util.BitSet;
import java.util.Collections;
import java.util.List;
import java.util.NoSuchElementException;
import java.util.regex.Matcher;
import java.util.regex.Pattern;

/**
 * The document once more, slowly and with the Java library: all is found anew at each call, with
 * big integers, sets of bits and regular expressions, so that it shares no code with the class.
 */
final class Model {
    private static final String OPERANDS_OF = "cc ,c  ,c  ,ss ,ss ,ss ,ss ,ss ,ss ,sc ,sc ,ss ,sss";
    private static final BigInteger LEAST_INT = BigInteger.valueOf(Integer.MIN_VALUE);
    private static final BigInteger GREATEST_INT = BigInteger.valueOf(Integer.MAX_VALUE);

    private static final class Node {
        int kind;
        int[] operand = new int[3];
        int next;
        boolean output;
        int phase;
        int present;
        int full;
        int narrowed;

        Node copy() {
            Node node = new Node();
            node.kind = kind;
            node.operand = operand.clone();
            node.next = next;
            node.output = output;
            node.phase = phase;
            node.present = present;
            node.full = full;
            node.narrowed = narrowed;
            return node;
        }
    }

    private static final class Unit {
        int kind;
        final List<Integer> signals = new ArrayList<>();
    }

    private List<Node> nodes = new ArrayList<>();
    private int cycles = 0;
    private List<Node> savedNodes = null;
    private int savedCycles = 0;
    private String input = "";
    private final List<int[]> faults = new ArrayList<>();

    private static List<Node> copyOf(List<Node> from) {
        List<Node> copy = new ArrayList<>();
        for (Node node : from) {
            copy.add(node.copy());
        }
        return copy;
    }

    private static char role(int kind, int index) {
        return OPERANDS_OF.split(",")[kind].charAt(index);
    }

    private static boolean constantIsWrong(int kind, int index, int[] operand) {
        if (role(kind, index) != 'c') {
            return false;
        }
        if (kind == 9 || kind == 10) {
            return operand[index] < 0 || operand[index] > 15;
        }
        return operand[index] < -4096 || operand[index] > 4095 || index == 1 && operand[1] < operand[0];
    }

    private boolean exists(int signal) {
        return signal >= 0 && signal < nodes.size();
    }

    private void check(int signal) {
        if (!exists(signal)) {
            throw new IndexOutOfBoundsException();
        }
    }

    int add(int kind, int a, int b, int c) {
        if (kind < 0 || kind > 12) {
            throw new IllegalArgumentException();
        }
        int[] operand = {a, b, c};
        for (int i = 0; i < 3; i++) {
            if (constantIsWrong(kind, i, operand)) {
                throw new IllegalArgumentException();
            }
        }
        for (int i = 0; i < 3; i++) {
            if (role(kind, i) == 's') {
                check(operand[i]);
            }
        }
        if (nodes.size() == 24) {
            throw new IllegalStateException();
        }
        append(kind, operand);
        restart();
        return nodes.size() - 1;
    }

    private void append(int kind, int[] operand) {
        Node node = new Node();
        node.kind = kind;
        for (int i = 0; i < 3; i++) {
            node.operand[i] = role(kind, i) == ' ' ? 0 : operand[i];
        }
        node.next = kind == 2 ? nodes.size() : -1;
        node.present = node.operand[0];
        nodes.add(node);
    }

    int removeLast() {
        if (nodes.isEmpty()) {
            throw new NoSuchElementException();
        }
        Node last = nodes.remove(nodes.size() - 1);
        for (int i = 0; i < nodes.size(); i++) {
            if (nodes.get(i).next == nodes.size()) {
                nodes.get(i).next = i;
            }
        }
        restart();
        return last.kind;
    }

    int setNext(int register, int next) {
        check(register);
        check(next);
        Node node = nodes.get(register);
        if (node.kind != 2) {
            throw new UnsupportedOperationException();
        }
        int previous = node.next;
        node.next = next;
        restart();
        return previous;
    }

    boolean setOutput(int signal, boolean isOutput) {
        check(signal);
        boolean previous = nodes.get(signal).output;
        nodes.get(signal).output = isOutput;
        restart();
        return previous;
    }

    int setPhase(int signal, int phase) {
        check(signal);
        if (phase < 0 || phase > 3) {
            throw new IllegalArgumentException();
        }
        int previous = nodes.get(signal).phase;
        nodes.get(signal).phase = phase;
        return previous;
    }

    int signal(int signal, int what) {
        check(signal);
        Node node = nodes.get(signal);
        int[] all = {node.kind, node.operand[0], node.operand[1], node.operand[2], node.next,
            node.output ? 1 : 0, node.phase};
        if (what < 0 || what >= all.length) {
            throw new IllegalArgumentException();
        }
        return all[what];
    }

    int count() {
        return nodes.size();
    }

    int clear() {
        int previous = nodes.size();
        nodes.clear();
        restart();
        return previous;
    }

    // ---- ranges

    private int rounds = 0;

    private BigInteger[][] ranges() {
        BigInteger[][] ranges = new BigInteger[nodes.size()][];
        for (int i = 0; i < nodes.size(); i++) {
            if (nodes.get(i).kind == 2) {
                BigInteger initial = BigInteger.valueOf(nodes.get(i).operand[0]);
                ranges[i] = new BigInteger[] {initial, initial};
            }
        }
        for (rounds = 1; true; rounds++) {
            for (int i = 0; i < nodes.size(); i++) {
                if (nodes.get(i).kind != 2) {
                    ranges[i] = rangeOf(nodes.get(i), ranges);
                }
            }
            boolean changed = false;
            for (int i = 0; i < nodes.size(); i++) {
                if (nodes.get(i).kind == 2) {
                    BigInteger[] before = ranges[i];
                    ranges[i] = joined(before, ranges[nodes.get(i).next]);
                    changed |= !Arrays.equals(before, ranges[i]);
                }
            }
            if (!changed) {
                return ranges;
            }
        }
    }

    private BigInteger[] joined(BigInteger[] own, BigInteger[] next) {
        BigInteger least = own[0].min(next[0]);
        BigInteger greatest = own[1].max(next[1]);
        if (rounds >= 4 && least.compareTo(own[0]) < 0) {
            BigInteger wide = BigInteger.ZERO;
            for (int n = 0; wide.compareTo(least) > 0; n++) {
                wide = BigInteger.TWO.pow(n).negate();
            }
            least = wide;
        }
        if (rounds >= 4 && greatest.compareTo(own[1]) > 0) {
            greatest = onesFrom(greatest);
        }
        return new BigInteger[] {least, greatest};
    }

    private static BigInteger onesFrom(BigInteger limit) {
        int n = 0;
        while (BigInteger.TWO.pow(n).subtract(BigInteger.ONE).compareTo(limit) < 0) {
            n++;
        }
        return BigInteger.TWO.pow(n).subtract(BigInteger.ONE);
    }

    private static BigInteger[] spanOf(List<BigInteger> results) {
        BigInteger least = Collections.min(results);
        BigInteger greatest = Collections.max(results);
        if (least.compareTo(LEAST_INT) < 0 || greatest.compareTo(GREATEST_INT) > 0) {
            return new BigInteger[] {LEAST_INT, GREATEST_INT};
        }
        return new BigInteger[] {least, greatest};
    }

    private BigInteger[] rangeOf(Node node, BigInteger[][] ranges) {
        int[] o = node.operand;
        if (node.kind == 0) {
            return new BigInteger[] {BigInteger.valueOf(o[0]), BigInteger.valueOf(o[1])};
        }
        if (node.kind == 1) {
            return new BigInteger[] {BigInteger.valueOf(o[0]), BigInteger.valueOf(o[0])};
        }
        BigInteger[] a = ranges[o[0]];
        if (node.kind == 9 || node.kind == 10) {
            int shift = node.kind == 9 ? o[1] : -o[1];
            return spanOf(List.of(a[0].shiftLeft(shift), a[1].shiftLeft(shift)));
        }
        BigInteger[] b = ranges[o[1]];
        if (node.kind <= 5) {
            List<BigInteger> results = new ArrayList<>();
            for (BigInteger x : a) {
                for (BigInteger y : b) {
                    results.add(node.kind == 3 ? x.add(y) : node.kind == 4 ? x.subtract(y) : x.multiply(y));
                }
            }
            return spanOf(results);
        }
        if (node.kind <= 8) {
            return bitwiseRange(node.kind, a, b);
        }
        if (node.kind == 11) {
            BigInteger sure = a[1].compareTo(b[0]) < 0 ? BigInteger.ONE : BigInteger.ZERO;
            BigInteger possible = a[0].compareTo(b[1]) < 0 ? BigInteger.ONE : BigInteger.ZERO;
            return new BigInteger[] {sure, possible};
        }
        BigInteger[] c = ranges[o[2]];
        if (a[0].signum() > 0 || a[1].signum() < 0) {
            return b;
        }
        if (a[0].signum() == 0 && a[1].signum() == 0) {
            return c;
        }
        return new BigInteger[] {b[0].min(c[0]), b[1].max(c[1])};
    }

    private static BigInteger[] bitwiseRange(int kind, BigInteger[] a, BigInteger[] b) {
        boolean plusA = a[0].signum() >= 0;
        boolean plusB = b[0].signum() >= 0;
        if (plusA && plusB) {
            return new BigInteger[] {BigInteger.ZERO, kind == 6 ? a[1].min(b[1]) : onesFrom(a[1].max(b[1]))};
        }
        if (kind == 6 && (plusA || plusB)) {
            return new BigInteger[] {BigInteger.ZERO, plusA ? a[1] : b[1]};
        }
        BigInteger limit = a[0].min(b[0]).min(a[1].max(b[1]).negate().subtract(BigInteger.ONE));
        int n = 0;
        while (BigInteger.TWO.pow(n).negate().compareTo(limit) > 0) {
            n++;
        }
        BigInteger power = BigInteger.TWO.pow(n).negate();
        return new BigInteger[] {power, power.negate().subtract(BigInteger.ONE)};
    }

    private static int rangeWidth(BigInteger[] range) {
        int n = 1;
        if (range[0].signum() >= 0) {
            while (range[1].compareTo(BigInteger.TWO.pow(n)) >= 0) {
                n++;
            }
            return n;
        }
        while (range[0].compareTo(BigInteger.TWO.pow(n - 1).negate()) < 0
                || range[1].compareTo(BigInteger.TWO.pow(n - 1)) >= 0) {
            n++;
        }
        return n;
    }

    // ---- demanded bits

    private BitSet[] demand() {
        BigInteger[][] ranges = ranges();
        BitSet[] bits = new BitSet[nodes.size()];
        for (int i = 0; i < bits.length; i++) {
            bits[i] = new BitSet();
        }
        int before = -1;
        int now = 0;
        while (now != before) {
            before = now;
            for (int i = 0; i < bits.length; i++) {
                if (nodes.get(i).output) {
                    ask(ranges, bits, i, allTo(31));
                }
                if (!bits[i].isEmpty()) {
                    askFor(ranges, bits, i);
                }
            }
            now = 0;
            for (BitSet set : bits) {
                now += set.cardinality();
            }
        }
        return bits;
    }

    private static BitSet allTo(int highest) {
        BitSet set = new BitSet();
        set.set(0, highest + 1);
        return set;
    }

    private static void ask(BigInteger[][] ranges, BitSet[] bits, int i, BitSet asked) {
        int w = rangeWidth(ranges[i]);
        for (int bit = 0; bit < 32; bit++) {
            if (asked.get(bit)) {
                if (bit < w) {
                    bits[i].set(bit);
                } else if (ranges[i][0].signum() < 0) {
                    bits[i].set(w - 1);
                }
            }
        }
    }

    private BitSet masked(BitSet bits, int other) {
        BitSet set = new BitSet();
        for (int bit = 0; bit < 32; bit++) {
            boolean passes = nodes.get(other).kind != 1
                    || BigInteger.valueOf(nodes.get(other).operand[0]).testBit(bit);
            set.set(bit, bits.get(bit) && passes);
        }
        return set;
    }

    private void askFor(BigInteger[][] ranges, BitSet[] bits, int i) {
        Node node = nodes.get(i);
        int[] o = node.operand;
        BitSet own = (BitSet) bits[i].clone();
        BitSet asked = new BitSet();
        if (node.kind == 2) {
            ask(ranges, bits, node.next, own);
        } else if (node.kind >= 3 && node.kind <= 5) {
            ask(ranges, bits, o[0], allTo(own.length() - 1));
            ask(ranges, bits, o[1], allTo(own.length() - 1));
        } else if (node.kind == 6) {
            ask(ranges, bits, o[0], masked(own, o[1]));
            ask(ranges, bits, o[1], masked(own, o[0]));
        } else if (node.kind == 7 || node.kind == 8) {
            ask(ranges, bits, o[0], own);
            ask(ranges, bits, o[1], own);
        } else if (node.kind == 9 || node.kind == 10) {
            for (int bit = own.nextSetBit(0); bit >= 0; bit = own.nextSetBit(bit + 1)) {
                int to = node.kind == 9 ? bit - o[1] : Math.min(31, bit + o[1]);
                if (to >= 0) {
                    asked.set(to);
                }
            }
            ask(ranges, bits, o[0], asked);
        } else if (node.kind == 11) {
            ask(ranges, bits, o[0], allTo(31));
            ask(ranges, bits, o[1], allTo(31));
        } else if (node.kind == 12) {
            ask(ranges, bits, o[0], allTo(31));
            ask(ranges, bits, o[1], own);
            ask(ranges, bits, o[2], own);
        }
    }

    int range(int signal, boolean isGreatest) {
        check(signal);
        return ranges()[signal][isGreatest ? 1 : 0].intValueExact();
    }

    int rounds() {
        ranges();
        return rounds;
    }

    int demanded(int signal) {
        check(signal);
        BitSet set = demand()[signal];
        int all = 0;
        for (int bit = 0; bit < 32; bit++) {
            all |= set.get(bit) ? 1 << bit : 0;
        }
        return all;
    }

    int width(int signal, boolean isOfRange) {
        check(signal);
        return isOfRange ? rangeWidth(ranges()[signal]) : demand()[signal].length();
    }

    boolean isSigned(int signal) {
        check(signal);
        return ranges()[signal][0].signum() < 0 && width(signal, false) == width(signal, true);
    }

    // ---- costs and units

    private static int costAt(int kind, int n) {
        int[] due = {0, 0, 4 * n, n, n, n * n, n, n, n, 0, 0, n, 2 * n};
        return due[kind];
    }

    int cost(int signal) {
        check(signal);
        BitSet[] bits = demand();
        Node node = nodes.get(signal);
        int n = bits[signal].length();
        if (node.kind == 11 && n != 0) {
            n = Math.max(bits[node.operand[0]].length(), bits[node.operand[1]].length());
        }
        return costAt(node.kind, n);
    }

    int total(int what) {
        if (what < 0 || what > 4) {
            throw new IllegalArgumentException();
        }
        List<Unit> units = allUnits();
        int sum = 0;
        for (int i = 0; i < nodes.size(); i++) {
            int n = width(i, false);
            if (what == 0) {
                sum += cost(i);
            } else if (what == 1) {
                sum += costAt(nodes.get(i).kind, 32);
            } else if (what == 2) {
                sum += find(units, i) < 0 ? cost(i) : 0;
            } else {
                sum += what == 3 ? n : n == 0 ? 1 : 0;
            }
        }
        if (what == 2) {
            for (Unit unit : units) {
                sum += costOf(unit.kind, unit.signals);
            }
        }
        return sum;
    }

    double share() {
        if (total(1) == 0) {
            throw new ArithmeticException();
        }
        return (double) total(0) / (double) total(1);
    }

    private int costOf(int kind, List<Integer> signals) {
        int widest = 0;
        for (int signal : signals) {
            widest = Math.max(widest, width(signal, false));
        }
        return costAt(kind, widest) + widest * (signals.size() - 1);
    }

    private List<Unit> allUnits() {
        List<Unit> units = new ArrayList<>();
        for (int i = 0; i < nodes.size(); i++) {
            int kind = nodes.get(i).kind;
            if (kind < 3 || kind > 5 || width(i, false) == 0) {
                continue;
            }
            Unit best = null;
            int least = 0;
            for (Unit unit : units) {
                boolean fits = unit.kind == kind;
                for (int other : unit.signals) {
                    fits &= nodes.get(other).phase != nodes.get(i).phase;
                }
                List<Integer> more = new ArrayList<>(unit.signals);
                more.add(i);
                int increase = costOf(kind, more) - costOf(kind, unit.signals);
                if (fits && (best == null || increase < least)) {
                    best = unit;
                    least = increase;
                }
            }
            if (best == null || least >= cost(i)) {
                best = new Unit();
                best.kind = kind;
                units.add(best);
            }
            best.signals.add(i);
        }
        return units;
    }

    private static int find(List<Unit> units, int signal) {
        for (int i = 0; i < units.size(); i++) {
            if (units.get(i).signals.contains(signal)) {
                return i;
            }
        }
        return -1;
    }

    int units() {
        return allUnits().size();
    }

    int unit(int number, int what) {
        List<Unit> units = allUnits();
        if (number < 0 || number >= units.size()) {
            throw new IndexOutOfBoundsException();
        }
        Unit unit = units.get(number);
        int widest = 0;
        for (int signal : unit.signals) {
            widest = Math.max(widest, width(signal, false));
        }
        switch (what) {
            case 0: return unit.kind;
            case 1: return widest;
            case 2: return costOf(unit.kind, unit.signals);
            case 3: return unit.signals.size();
            case 4: return unit.signals.get(0);
            default: throw new IllegalArgumentException();
        }
    }

    int unitOf(int signal) {
        check(signal);
        int unit = find(allUnits(), signal);
        if (unit < 0) {
            throw new NoSuchElementException();
        }
        return unit;
    }

    // ---- execution

    int setInput(int signal, int value) {
        check(signal);
        Node node = nodes.get(signal);
        if (node.kind != 0) {
            throw new UnsupportedOperationException();
        }
        if (value < node.operand[0] || value > node.operand[1]) {
            throw new IllegalArgumentException();
        }
        int previous = node.present;
        node.present = value;
        return previous;
    }

    private int[] widthsNow() {
        BitSet[] bits = demand();
        int[] widths = new int[bits.length];
        for (int i = 0; i < bits.length; i++) {
            widths[i] = isSigned(i) ? -bits[i].length() : bits[i].length();
        }
        return widths;
    }

    private int[] values(boolean isNarrowed, int[] widths) {
        int[] v = new int[nodes.size()];
        for (int i = 0; i < v.length; i++) {
            Node node = nodes.get(i);
            int exact = compute(node, v, isNarrowed ? node.narrowed : node.full);
            v[i] = isNarrowed ? lowestOf(exact, widths[i]) : exact;
        }
        return v;
    }

    /** A negative width stands for a signed one. */
    private static int lowestOf(int exact, int width) {
        BigInteger size = BigInteger.TWO.pow(Math.abs(width));
        BigInteger low = BigInteger.valueOf(exact).mod(size);
        if (width < 0 && low.testBit(-width - 1)) {
            low = low.subtract(size);
        }
        return low.intValueExact();
    }

    private static int compute(Node node, int[] v, int held) {
        int[] o = node.operand;
        switch (node.kind) {
            case 0: return node.present;
            case 1: return o[0];
            case 2: return held;
            case 3: return v[o[0]] + v[o[1]];
            case 4: return v[o[0]] - v[o[1]];
            case 5: return v[o[0]] * v[o[1]];
            case 6: return v[o[0]] & v[o[1]];
            case 7: return v[o[0]] | v[o[1]];
            case 8: return v[o[0]] ^ v[o[1]];
            case 9: return v[o[0]] * (1 << o[1]);
            case 10: return Math.floorDiv(v[o[0]], 1 << o[1]);
            case 11: return v[o[0]] < v[o[1]] ? 1 : 0;
            default: return v[o[0]] == 0 ? v[o[2]] : v[o[1]];
        }
    }

    int run(int number) {
        if (number < 1 || number > 200) {
            throw new IllegalArgumentException();
        }
        int[] widths = widthsNow();
        for (int cycle = 0; cycle < number; cycle++) {
            int[] full = values(false, widths);
            int[] narrowed = values(true, widths);
            for (int i = 0; i < nodes.size(); i++) {
                Node node = nodes.get(i);
                if (node.kind == 2) {
                    node.full = full[node.next];
                    node.narrowed = lowestOf(narrowed[node.next], widths[i]);
                }
            }
            cycles++;
        }
        int differing = 0;
        for (int i = 0; i < nodes.size(); i++) {
            if (nodes.get(i).output && values(false, widths)[i] != values(true, widths)[i]) {
                differing++;
            }
        }
        return differing;
    }

    int value(int signal, boolean isNarrowed) {
        check(signal);
        return values(isNarrowed, widthsNow())[signal];
    }

    int restart() {
        int passed = cycles;
        cycles = 0;
        int[] widths = widthsNow();
        for (int i = 0; i < nodes.size(); i++) {
            nodes.get(i).full = nodes.get(i).operand[0];
            nodes.get(i).narrowed = lowestOf(nodes.get(i).operand[0], widths[i]);
        }
        return passed;
    }

    // ---- texts

    private static final String NUMBER = "-?[0-9]{1,4}";
    private static final String SIGNAL = "[0-9]{1,2}";
    private static final String ITEM = "(?:i" + NUMBER + ":" + NUMBER + "|[kr]" + NUMBER
            + "|" + SIGNAL + "(?:[-+*&|^<]" + SIGNAL + "|[lh]" + SIGNAL + "|\\?" + SIGNAL + ":" + SIGNAL
            + ")|n" + SIGNAL + ":" + SIGNAL + "|o" + SIGNAL + ")";
    private static final Pattern TEXT = Pattern.compile(ITEM + "(?:;" + ITEM + ")*", Pattern.DOTALL);
    private static final Pattern DIGITS = Pattern.compile("[0-9]+");
    private static final Pattern SIGNED_DIGITS = Pattern.compile("-?[0-9]+");

    int feed(char character) {
        if (input.length() == 80) {
            throw new IllegalStateException();
        }
        input += character;
        return input.length();
    }

    private static boolean canGoOn(String beginning) {
        Matcher matcher = TEXT.matcher(beginning);
        return matcher.matches() || matcher.hitEnd();
    }

    int read() {
        String text = input;
        input = "";
        faults.clear();
        if (!TEXT.matcher(text).matches()) {
            int offset = 0;
            while (offset < text.length() && canGoOn(text.substring(0, offset + 1))) {
                offset++;
            }
            int item = (int) text.substring(0, offset).chars().filter(sign -> sign == ';').count();
            faults.add(new int[] {1, item});
            faults.add(new int[] {2, offset});
            return -1;
        }
        List<Node> before = copyOf(nodes);
        String[] items = text.split(";");
        for (int i = 0; i < items.length; i++) {
            int[] cause = carryOut(items[i]);
            if (cause != null) {
                faults.add(new int[] {1, i});
                faults.add(new int[] {3, nodes.size()});
                faults.add(cause);
                nodes = before;
                return -1;
            }
        }
        restart();
        return items.length;
    }

    private static int[] numbersOf(String item, Pattern pattern) {
        int[] numbers = new int[3];
        Matcher matcher = pattern.matcher(item);
        for (int i = 0; matcher.find(); i++) {
            numbers[i] = Integer.parseInt(matcher.group());
        }
        return numbers;
    }

    private int[] carryOut(String item) {
        boolean isSigned = "ikr".indexOf(item.charAt(0)) >= 0;
        int[] o = numbersOf(item, isSigned ? SIGNED_DIGITS : DIGITS);
        if (item.startsWith("o")) {
            if (!exists(o[0])) {
                return new int[] {5, 0};
            }
            nodes.get(o[0]).output = true;
            return null;
        }
        if (item.startsWith("n")) {
            if (!exists(o[0]) || !exists(o[1])) {
                return new int[] {5, exists(o[0]) ? 1 : 0};
            }
            if (nodes.get(o[0]).kind != 2) {
                return new int[] {7, 0};
            }
            nodes.get(o[0]).next = o[1];
            return null;
        }
        String sign = isSigned ? item.substring(0, 1) : item.replaceAll("[0-9:]", "");
        int kind = "ikr+-*&|^lh<?".indexOf(sign);
        for (int i = 0; i < 3; i++) {
            if (constantIsWrong(kind, i, o)) {
                return new int[] {4, i};
            }
            if (role(kind, i) == 's' && !exists(o[i])) {
                return new int[] {5, i};
            }
        }
        if (nodes.size() == 24) {
            return new int[] {6, 0};
        }
        append(kind, o);
        return null;
    }

    int fault(int level, int what) {
        if (level < 0 || what < 0 || what > 1) {
            throw new IllegalArgumentException();
        }
        if (level >= faults.size()) {
            throw new NoSuchElementException();
        }
        return faults.get(level)[what];
    }

    int saveSnapshot() {
        savedNodes = copyOf(nodes);
        savedCycles = cycles;
        return nodes.size();
    }

    int restoreSnapshot() {
        if (savedNodes == null) {
            throw new IllegalStateException();
        }
        nodes = copyOf(savedNodes);
        cycles = savedCycles;
        return nodes.size();
    }
}
