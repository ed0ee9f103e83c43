import java.util.Arrays;
import java.util.NoSuchElementException;

/**
 * A minimizer of the widths of signals in a synchronous circuit: ranges of values forwards with
 * widening, demanded bits backwards, signed and unsigned widths, gate costs, shared units, and two
 * machines that execute the circuit with full and with narrowed signals.
 */
public final class WidthMinimizer {
    private static final int MAX_SIGNALS = 24;
    private static final int LEAST_CONSTANT = -4096;
    private static final int GREATEST_CONSTANT = 4095;
    private static final int GREATEST_SHIFT = 15;
    private static final int GREATEST_PHASE = 3;
    private static final int MAX_CYCLES = 200;
    private static final int INT_BITS = 32;
    private static final int ALL_BITS = -1;
    private static final int LEAST_INT = -2147483648;
    private static final int GREATEST_INT = 2147483647;

    private static final int INPUT = 0;
    private static final int CONSTANT = 1;
    private static final int REGISTER = 2;
    private static final int SUM = 3;
    private static final int DIFFERENCE = 4;
    private static final int PRODUCT = 5;
    private static final int AND = 6;
    private static final int OR = 7;
    private static final int EXCLUSIVE_OR = 8;
    private static final int SHIFT_LEFT = 9;
    private static final int SHIFT_RIGHT = 10;
    private static final int LESS = 11;
    private static final int CHOICE = 12;
    // Items of a text that add no signal.
    private static final int NEXT_ITEM = 13;
    private static final int OUTPUT_ITEM = 14;

    private static final int FAULT_OF_ITEM = 1;
    private static final int FAULT_OF_TEXT = 2;
    private static final int FAULT_OF_CARRYING_OUT = 3;
    private static final int CONSTANT_OUT_OF_RANGE = 4;
    private static final int SIGNAL_MISSING = 5;
    private static final int CIRCUIT_FULL = 6;
    private static final int NO_REGISTER = 7;

    private final Circuit circuit = new Circuit();
    private final Circuit snapshot = new Circuit();
    private final Circuit backup = new Circuit();
    private final Item asked = new Item();
    private final Ranges ranges = new Ranges();
    private final Widths widths = new Widths();
    private final UnitPlan plan = new UnitPlan();
    private final Machine fullMachine = new Machine();
    private final Machine narrowedMachine = new Machine();
    private final Text text = new Text();
    private final Faults faults = new Faults();
    private boolean hasSnapshot = false;
    private boolean isAnalysed = false;

    /** Creates an empty circuit. */
    public WidthMinimizer() {
    }

    // ---- circuit

    /** Adds a signal and returns its number. */
    public int add(int kind, int a, int b, int c)
            throws IllegalArgumentException, IndexOutOfBoundsException, IllegalStateException {
        if (kind < INPUT || kind > CHOICE) {
            throw new IllegalArgumentException("no such kind");
        }
        asked.become(kind, a, b, c);
        if (asked.hasWrongConstant()) {
            throw new IllegalArgumentException("a constant operand is out of range");
        }
        if (asked.lacksSignal(circuit.size)) {
            throw new IndexOutOfBoundsException("an operand does not exist");
        }
        if (circuit.isFull()) {
            throw new IllegalStateException("there are 24 signals");
        }
        circuit.append(asked);
        beginAnew();
        return circuit.size - 1;
    }

    /** Removes the signal with the greatest number and returns its kind. */
    public int removeLast() throws NoSuchElementException {
        if (circuit.size == 0) {
            throw new NoSuchElementException("there are no signals");
        }
        int kind = circuit.dropLast();
        beginAnew();
        return kind;
    }

    /** Sets the next signal of a register and returns the previous one. */
    public int setNext(int register, int next)
            throws IndexOutOfBoundsException, UnsupportedOperationException {
        requireSignal(register);
        requireSignal(next);
        if (circuit.kind[register] != REGISTER) {
            throw new UnsupportedOperationException("the signal is no register");
        }
        int previous = circuit.next[register];
        circuit.next[register] = next;
        beginAnew();
        return previous;
    }

    /** Makes a signal an output or no output and returns whether it was one before. */
    public boolean setOutput(int signal, boolean isOutput) throws IndexOutOfBoundsException {
        requireSignal(signal);
        boolean previous = circuit.isOutput[signal];
        circuit.isOutput[signal] = isOutput;
        beginAnew();
        return previous;
    }

    /** Sets the phase of a signal and returns the previous one. */
    public int setPhase(int signal, int phase)
            throws IndexOutOfBoundsException, IllegalArgumentException {
        requireSignal(signal);
        if (phase < 0 || phase > GREATEST_PHASE) {
            throw new IllegalArgumentException("the phase is not from 0 to 3");
        }
        int previous = circuit.phase[signal];
        circuit.phase[signal] = phase;
        isAnalysed = false;
        return previous;
    }

    /** Returns a property of a signal. */
    public int signal(int signal, int what)
            throws IndexOutOfBoundsException, IllegalArgumentException {
        requireSignal(signal);
        switch (what) {
            case 0:
                return circuit.kind[signal];
            case 1:
                return circuit.a[signal];
            case 2:
                return circuit.b[signal];
            case 3:
                return circuit.c[signal];
            case 4:
                return circuit.kind[signal] == REGISTER ? circuit.next[signal] : -1;
            case 5:
                return circuit.isOutput[signal] ? 1 : 0;
            case 6:
                return circuit.phase[signal];
            default:
                throw new IllegalArgumentException("no such property of a signal");
        }
    }

    /** Returns the number of signals. */
    public int count() {
        return circuit.size;
    }

    /** Removes all signals and returns how many there were. */
    public int clear() {
        int previous = circuit.size;
        circuit.size = 0;
        beginAnew();
        return previous;
    }

    // ---- analysis

    /** Returns an end of the range of a signal. */
    public int range(int signal, boolean isGreatest) throws IndexOutOfBoundsException {
        requireSignal(signal);
        analyse();
        return isGreatest ? ranges.greatest[signal] : ranges.least[signal];
    }

    /** Returns the number of rounds by which the ranges are found. */
    public int rounds() {
        analyse();
        return ranges.roundCount;
    }

    /** Returns the demanded bits of a signal. */
    public int demanded(int signal) throws IndexOutOfBoundsException {
        requireSignal(signal);
        analyse();
        return widths.bits[signal];
    }

    /** Returns the width of a signal or of its range. */
    public int width(int signal, boolean isOfRange) throws IndexOutOfBoundsException {
        requireSignal(signal);
        analyse();
        return isOfRange ? ranges.bitsOf[signal] : widths.narrow[signal];
    }

    /** Returns whether a signal is narrowed signed. */
    public boolean isSigned(int signal) throws IndexOutOfBoundsException {
        requireSignal(signal);
        analyse();
        return widths.isNarrowSigned[signal];
    }

    /** Returns the cost of a signal. */
    public int cost(int signal) throws IndexOutOfBoundsException {
        requireSignal(signal);
        analyse();
        return widths.costIn(circuit, signal);
    }

    /** Returns a number about the whole circuit. */
    public int total(int what) throws IllegalArgumentException {
        analyse();
        switch (what) {
            case 0:
                return widths.costOfAll(circuit);
            case 1:
                return fullCost();
            case 2:
                return sharedCost();
            case 3:
                return widths.sumIn(circuit);
            case 4:
                return widths.zeroesIn(circuit);
            default:
                throw new IllegalArgumentException("no such number about the circuit");
        }
    }

    /** Returns the share of the cost that is left by narrowing. */
    public double share() throws ArithmeticException {
        analyse();
        int full = fullCost();
        if (full == 0) {
            throw new ArithmeticException("the circuit with full signals costs nothing");
        }
        return (double) widths.costOfAll(circuit) / (double) full;
    }

    /** Returns the number of units. */
    public int units() {
        analyse();
        return plan.size;
    }

    /** Returns a property of a unit. */
    public int unit(int unit, int what)
            throws IndexOutOfBoundsException, IllegalArgumentException {
        analyse();
        if (unit < 0 || unit >= plan.size) {
            throw new IndexOutOfBoundsException("there is no such unit");
        }
        switch (what) {
            case 0:
                return plan.kind[unit];
            case 1:
                return plan.widest[unit];
            case 2:
                return plan.costOf(unit);
            case 3:
                return plan.members[unit];
            case 4:
                return plan.first[unit];
            default:
                throw new IllegalArgumentException("no such property of a unit");
        }
    }

    /** Returns the unit that carries out a signal. */
    public int unitOf(int signal) throws IndexOutOfBoundsException, NoSuchElementException {
        requireSignal(signal);
        analyse();
        if (plan.ofSignal[signal] < 0) {
            throw new NoSuchElementException("no unit carries out the signal");
        }
        return plan.ofSignal[signal];
    }

    // ---- execution

    /** Sets the present value of an input, for both machines, and returns the previous one. */
    public int setInput(int signal, int value)
            throws IndexOutOfBoundsException, UnsupportedOperationException, IllegalArgumentException {
        requireSignal(signal);
        if (circuit.kind[signal] != INPUT) {
            throw new UnsupportedOperationException("the signal is no input");
        }
        if (value < circuit.a[signal] || value > circuit.b[signal]) {
            throw new IllegalArgumentException("the value is not in the range of the input");
        }
        int previous = circuit.present[signal];
        circuit.present[signal] = value;
        return previous;
    }

    /** Lets cycles pass and returns the number of outputs that differ in both machines. */
    public int run(int cycles) throws IllegalArgumentException {
        if (cycles < 1 || cycles > MAX_CYCLES) {
            throw new IllegalArgumentException("the number of cycles is not from 1 to 200");
        }
        analyse();
        for (int cycle = 0; cycle < cycles; cycle++) {
            settleBoth();
            circuit.takeOver(circuit.fullHeld, fullMachine.now);
            circuit.takeOver(circuit.narrowedHeld, narrowedMachine.now);
        }
        circuit.cycles += cycles;
        settleBoth();
        return differingOutputs();
    }

    /** Returns the value of a signal now. */
    public int value(int signal, boolean isNarrowed) throws IndexOutOfBoundsException {
        requireSignal(signal);
        analyse();
        settleBoth();
        return isNarrowed ? narrowedMachine.now[signal] : fullMachine.now[signal];
    }

    /** Gives all registers their initial values and returns the cycles that passed before. */
    public int restart() {
        int passed = circuit.cycles;
        circuit.rewind();
        return passed;
    }

    // ---- texts, snapshot

    /** Appends a character to the input and returns the length of the input. */
    public int feed(char character) throws IllegalStateException {
        if (text.length >= Text.MAX_LENGTH) {
            throw new IllegalStateException("the input has 80 characters");
        }
        return text.append(character);
    }

    /** Parses the input and carries it out; returns the number of items, -1 with a fault. */
    public int read() {
        faults.forget();
        boolean isText = text.parse();
        text.length = 0;
        if (!isText) {
            faults.become(text.itemCount, FAULT_OF_TEXT, text.at);
            return -1;
        }
        backup.copyFrom(circuit);
        for (int i = 0; i < text.itemCount; i++) {
            if (!carryOut(text.items[i], i)) {
                circuit.copyFrom(backup);
                return -1;
            }
        }
        beginAnew();
        return text.itemCount;
    }

    /** Returns the kind or the place of a fault of the latest call of read. */
    public int fault(int level, int what) throws IllegalArgumentException, NoSuchElementException {
        if (level < 0 || what < 0 || what > 1) {
            throw new IllegalArgumentException("no such level or property of a fault");
        }
        if (level >= faults.levels) {
            throw new NoSuchElementException("there is no fault of this level");
        }
        return what == 0 ? faults.kind[level] : faults.place[level];
    }

    /** Saves the circuit with the state of both machines and returns the number of signals. */
    public int saveSnapshot() {
        snapshot.copyFrom(circuit);
        hasSnapshot = true;
        return circuit.size;
    }

    /** Restores what was saved by the latest snapshot and returns the number of signals. */
    public int restoreSnapshot() throws IllegalStateException {
        if (!hasSnapshot) {
            throw new IllegalStateException("no snapshot was saved");
        }
        circuit.copyFrom(snapshot);
        isAnalysed = false;
        return circuit.size;
    }

    // ---- helpers of the face

    private void requireSignal(int signal) {
        if (!circuit.has(signal)) {
            throw new IndexOutOfBoundsException("there is no such signal");
        }
    }

    private void beginAnew() {
        circuit.rewind();
        isAnalysed = false;
    }

    private void analyse() {
        if (isAnalysed) {
            return;
        }
        ranges.find(circuit);
        widths.find(circuit, ranges);
        plan.assign(circuit, widths);
        isAnalysed = true;
    }

    private int fullCost() {
        int sum = 0;
        for (int i = 0; i < circuit.size; i++) {
            sum += costFor(circuit.kind[i], INT_BITS);
        }
        return sum;
    }

    private int sharedCost() {
        int sum = plan.costOfAll();
        for (int i = 0; i < circuit.size; i++) {
            if (plan.ofSignal[i] < 0) {
                sum += widths.costIn(circuit, i);
            }
        }
        return sum;
    }

    /** The caller has analysed the circuit. */
    private void settleBoth() {
        fullMachine.settle(circuit, circuit.fullHeld);
        narrowedMachine.settleNarrowed(circuit, circuit.narrowedHeld, widths);
    }

    private int differingOutputs() {
        int differing = 0;
        for (int i = 0; i < circuit.size; i++) {
            if (circuit.isOutput[i] && fullMachine.now[i] != narrowedMachine.now[i]) {
                differing++;
            }
        }
        return differing;
    }

    private boolean carryOut(Item item, int number) {
        int wrong = item.firstWrongOperand(circuit.size);
        if (wrong >= 0) {
            boolean isConstant = item.isConstantAt(wrong);
            return refuse(number, isConstant ? CONSTANT_OUT_OF_RANGE : SIGNAL_MISSING, wrong);
        }
        if (item.kind <= CHOICE) {
            if (circuit.isFull()) {
                return refuse(number, CIRCUIT_FULL, 0);
            }
            circuit.append(item);
            return true;
        }
        int target = item.operand[0];
        if (item.kind == OUTPUT_ITEM) {
            circuit.isOutput[target] = true;
            return true;
        }
        if (circuit.kind[target] != REGISTER) {
            return refuse(number, NO_REGISTER, 0);
        }
        circuit.next[target] = item.operand[1];
        return true;
    }

    private boolean refuse(int number, int cause, int operand) {
        faults.become(number, FAULT_OF_CARRYING_OUT, circuit.size);
        faults.addCause(cause, operand);
        return false;
    }

    /** The cost of a signal of a kind with a width; for kind 11, of operands of this width. */
    private static int costFor(int kind, int width) {
        switch (kind) {
            case REGISTER:
                return 4 * width;
            case PRODUCT:
                return width * width;
            case CHOICE:
                return 2 * width;
            case SUM:
            case DIFFERENCE:
            case AND:
            case OR:
            case EXCLUSIVE_OR:
            case LESS:
                return width;
            default:
                return 0;
        }
    }

    private static int bitLength(int bits) {
        return INT_BITS - Integer.numberOfLeadingZeros(bits);
    }

    /** The number whose lowest bits, as many as told, are 1. */
    private static int lowestBits(int number) {
        return number >= INT_BITS ? ALL_BITS : (1 << number) - 1;
    }

    /** A kind with its operands, as asked for by a call of add or by an item of a text. */
    private static final class Item {
        static final int NOTHING = 0;
        static final int A_CONSTANT = 1;
        static final int A_SIGNAL = 2;
        static final int OPERANDS = 3;

        int kind = INPUT;
        final int[] operand = new int[OPERANDS];

        /** Operands without meaning become 0, as they are shown later. */
        void become(int newKind, int a, int b, int c) {
            kind = newKind;
            operand[0] = a;
            operand[1] = roleOf(1) == NOTHING ? 0 : b;
            operand[2] = roleOf(2) == NOTHING ? 0 : c;
        }

        int roleOf(int index) {
            switch (kind) {
                case INPUT:
                    return index <= 1 ? A_CONSTANT : NOTHING;
                case CONSTANT:
                case REGISTER:
                    return index == 0 ? A_CONSTANT : NOTHING;
                case SHIFT_LEFT:
                case SHIFT_RIGHT:
                    return index == 0 ? A_SIGNAL : index == 1 ? A_CONSTANT : NOTHING;
                case CHOICE:
                    return A_SIGNAL;
                case OUTPUT_ITEM:
                    return index == 0 ? A_SIGNAL : NOTHING;
                default:
                    return index <= 1 ? A_SIGNAL : NOTHING;
            }
        }

        boolean isConstantAt(int index) {
            return roleOf(index) == A_CONSTANT;
        }

        boolean isWrongConstant(int index) {
            if (!isConstantAt(index)) {
                return false;
            }
            int constant = operand[index];
            if (kind == SHIFT_LEFT || kind == SHIFT_RIGHT) {
                return constant < 0 || constant > GREATEST_SHIFT;
            }
            boolean isBelowFirst = index == 1 && constant < operand[0];
            return isBelowFirst || constant < LEAST_CONSTANT || constant > GREATEST_CONSTANT;
        }

        boolean isMissingSignal(int index, int size) {
            return roleOf(index) == A_SIGNAL && (operand[index] < 0 || operand[index] >= size);
        }

        boolean hasWrongConstant() {
            return isWrongConstant(0) || isWrongConstant(1) || isWrongConstant(2);
        }

        boolean lacksSignal(int size) {
            return isMissingSignal(0, size) || isMissingSignal(1, size) || isMissingSignal(2, size);
        }

        /** The first operand at fault, or -1. */
        int firstWrongOperand(int size) {
            for (int i = 0; i < OPERANDS; i++) {
                if (isWrongConstant(i) || isMissingSignal(i, size)) {
                    return i;
                }
            }
            return -1;
        }
    }

    /** The signals, and what both machines keep from one call to the next. */
    private static final class Circuit {
        int size = 0;
        int cycles = 0;
        final int[] kind = new int[MAX_SIGNALS];
        final int[] a = new int[MAX_SIGNALS];
        final int[] b = new int[MAX_SIGNALS];
        final int[] c = new int[MAX_SIGNALS];
        final int[] next = new int[MAX_SIGNALS];
        final boolean[] isOutput = new boolean[MAX_SIGNALS];
        final int[] phase = new int[MAX_SIGNALS];
        final int[] present = new int[MAX_SIGNALS];
        final int[] fullHeld = new int[MAX_SIGNALS];
        final int[] narrowedHeld = new int[MAX_SIGNALS];

        boolean has(int number) {
            return number >= 0 && number < size;
        }

        boolean isFull() {
            return size >= MAX_SIGNALS;
        }

        /** Appends a signal; the caller has looked at the operands and at the room. */
        void append(Item item) {
            int number = size;
            kind[number] = item.kind;
            a[number] = item.operand[0];
            b[number] = item.operand[1];
            c[number] = item.operand[2];
            next[number] = number;
            isOutput[number] = false;
            phase[number] = 0;
            present[number] = item.operand[0];
            size = number + 1;
        }

        /** Removes the last signal, of which there must be one, and returns its kind. */
        int dropLast() {
            size--;
            for (int i = 0; i < size; i++) {
                if (next[i] == size) {
                    next[i] = i;
                }
            }
            return kind[size];
        }

        void rewind() {
            cycles = 0;
            for (int i = 0; i < size; i++) {
                fullHeld[i] = a[i];
                narrowedHeld[i] = a[i];
            }
        }

        void takeOver(int[] held, int[] now) {
            for (int i = 0; i < size; i++) {
                if (kind[i] == REGISTER) {
                    held[i] = now[next[i]];
                }
            }
        }

        void copyFrom(Circuit other) {
            size = other.size;
            cycles = other.cycles;
            copyRow(other.kind, kind);
            copyRow(other.a, a);
            copyRow(other.b, b);
            copyRow(other.c, c);
            copyRow(other.next, next);
            copyRow(other.phase, phase);
            copyRow(other.present, present);
            copyRow(other.fullHeld, fullHeld);
            copyRow(other.narrowedHeld, narrowedHeld);
            for (int i = 0; i < MAX_SIGNALS; i++) {
                isOutput[i] = other.isOutput[i];
            }
        }

        private static void copyRow(int[] from, int[] to) {
            System.arraycopy(from, 0, to, 0, MAX_SIGNALS);
        }
    }

    /** The ranges of all signals, found forwards in rounds. */
    private static final class Ranges {
        static final int FIRST_WIDENING_ROUND = 4;
        // From the fourth round on, an end of a register's range can change some 32 times only.
        static final int MAX_ROUNDS = 100000;

        final int[] least = new int[MAX_SIGNALS];
        final int[] greatest = new int[MAX_SIGNALS];
        final int[] bitsOf = new int[MAX_SIGNALS];
        int roundCount = 0;

        void find(Circuit circuit) {
            for (int i = 0; i < circuit.size; i++) {
                least[i] = circuit.a[i];
                greatest[i] = circuit.kind[i] == INPUT ? circuit.b[i] : circuit.a[i];
            }
            roundCount = 0;
            boolean hasChanged = true;
            while (hasChanged && roundCount < MAX_ROUNDS) {
                roundCount++;
                for (int i = 0; i < circuit.size; i++) {
                    findOne(circuit, i);
                }
                hasChanged = false;
                for (int i = 0; i < circuit.size; i++) {
                    if (circuit.kind[i] == REGISTER && join(i, circuit.next[i])) {
                        hasChanged = true;
                    }
                }
            }
            for (int i = 0; i < circuit.size; i++) {
                bitsOf[i] = widthOf(i);
            }
        }

        private int widthOf(int i) {
            if (isSignedRange(i)) {
                return bitLength(Math.max(~least[i], greatest[i])) + 1;
            }
            return Math.max(bitLength(greatest[i]), 1);
        }

        boolean isSignedRange(int i) {
            return least[i] < 0;
        }

        /** Inputs, constants and registers have their ranges already. */
        private void findOne(Circuit circuit, int i) {
            int a = circuit.a[i];
            int b = circuit.b[i];
            switch (circuit.kind[i]) {
                case SUM:
                    become(i, (long) least[a] + least[b], (long) greatest[a] + greatest[b]);
                    break;
                case DIFFERENCE:
                    become(i, (long) least[a] - greatest[b], (long) greatest[a] - least[b]);
                    break;
                case PRODUCT:
                    findProduct(i, a, b);
                    break;
                case AND:
                case OR:
                case EXCLUSIVE_OR:
                    findBitwise(i, circuit.kind[i], a, b);
                    break;
                case SHIFT_LEFT:
                    become(i, (long) least[a] << b, (long) greatest[a] << b);
                    break;
                case SHIFT_RIGHT:
                    become(i, least[a] >> b, greatest[a] >> b);
                    break;
                case LESS:
                    become(i, greatest[a] < least[b] ? 1 : 0, least[a] >= greatest[b] ? 0 : 1);
                    break;
                case CHOICE:
                    findChoice(i, a, b, circuit.c[i]);
                    break;
                default:
                    break;
            }
        }

        private void become(int i, long newLeast, long newGreatest) {
            boolean isInt = newLeast >= LEAST_INT && newGreatest <= GREATEST_INT;
            least[i] = isInt ? (int) newLeast : LEAST_INT;
            greatest[i] = isInt ? (int) newGreatest : GREATEST_INT;
        }

        private void findProduct(int i, int a, int b) {
            long first = (long) least[a] * least[b];
            long second = (long) least[a] * greatest[b];
            long third = (long) greatest[a] * least[b];
            long fourth = (long) greatest[a] * greatest[b];
            become(i, Math.min(Math.min(first, second), Math.min(third, fourth)),
                    Math.max(Math.max(first, second), Math.max(third, fourth)));
        }

        private void findBitwise(int i, int kind, int a, int b) {
            boolean isSignedA = isSignedRange(a);
            boolean isSignedB = isSignedRange(b);
            int top = Math.max(greatest[a], greatest[b]);
            if (kind == AND && !(isSignedA && isSignedB)) {
                int lower = Math.min(greatest[a], greatest[b]);
                become(i, 0, isSignedA ? greatest[b] : isSignedB ? greatest[a] : lower);
            } else if (!isSignedA && !isSignedB) {
                become(i, 0, onesNotBelow(top));
            } else {
                int bottom = Math.min(least[a], least[b]);
                int ones = onesNotBelow(Math.max(~bottom, top));
                become(i, ~ones, ones);
            }
        }

        private void findChoice(int i, int a, int b, int c) {
            if (least[a] > 0 || greatest[a] < 0) {
                become(i, least[b], greatest[b]);
            } else if (least[a] == 0 && greatest[a] == 0) {
                become(i, least[c], greatest[c]);
            } else {
                become(i, Math.min(least[b], least[c]), Math.max(greatest[b], greatest[c]));
            }
        }

        /** Lets a register take in the range of its next signal; tells whether its own changed. */
        private boolean join(int register, int next) {
            boolean isWidening = roundCount >= FIRST_WIDENING_ROUND;
            int low = least[next];
            int high = greatest[next];
            boolean falls = low < least[register];
            boolean rises = high > greatest[register];
            if (falls) {
                least[register] = isWidening ? powerNotAbove(low) : low;
            }
            if (rises) {
                greatest[register] = isWidening ? onesNotBelow(high) : high;
            }
            return falls || rises;
        }

        /** The least number of the form 2^n - 1 that is not below the limit. */
        private static int onesNotBelow(int limit) {
            return limit <= 0 ? 0 : ALL_BITS >>> Integer.numberOfLeadingZeros(limit);
        }

        /** The greatest number of the forms 0 or -2^n that is not above the limit. */
        private static int powerNotAbove(int limit) {
            return limit >= 0 ? 0 : ~onesNotBelow(~limit);
        }
    }

    /** The demanded bits of all signals, found backwards, and what narrowing makes of them. */
    private static final class Widths {
        // Each pass but the last adds a bit, and there are 24 times 32 of them.
        static final int MAX_PASSES = MAX_SIGNALS * INT_BITS + 1;

        final int[] bits = new int[MAX_SIGNALS];
        final int[] narrow = new int[MAX_SIGNALS];
        final boolean[] isNarrowSigned = new boolean[MAX_SIGNALS];
        private boolean hasChanged = false;

        void find(Circuit circuit, Ranges ranges) {
            Arrays.fill(bits, 0);
            for (int i = 0; i < circuit.size; i++) {
                if (circuit.isOutput[i]) {
                    ask(ranges, i, ALL_BITS);
                }
            }
            hasChanged = true;
            for (int pass = 0; hasChanged && pass < MAX_PASSES; pass++) {
                hasChanged = false;
                for (int i = circuit.size - 1; i >= 0; i--) {
                    if (bits[i] != 0) {
                        askOperands(circuit, ranges, i);
                    }
                }
            }
            for (int i = 0; i < circuit.size; i++) {
                narrow[i] = bitLength(bits[i]);
                isNarrowSigned[i] = ranges.isSignedRange(i) && narrow[i] == ranges.bitsOf[i];
            }
        }

        private void ask(Ranges ranges, int i, int asked) {
            int widthOfRange = ranges.bitsOf[i];
            int folded = asked & lowestBits(widthOfRange);
            int signPlace = widthOfRange - 1;
            if (ranges.isSignedRange(i) && asked >>> signPlace != 0) {
                folded |= 1 << signPlace;
            }
            if ((folded & ~bits[i]) != 0) {
                bits[i] |= folded;
                hasChanged = true;
            }
        }

        private void askOperands(Circuit circuit, Ranges ranges, int i) {
            int a = circuit.a[i];
            int b = circuit.b[i];
            int own = bits[i];
            switch (circuit.kind[i]) {
                case REGISTER:
                    ask(ranges, circuit.next[i], own);
                    break;
                case SUM:
                case DIFFERENCE:
                case PRODUCT:
                    ask(ranges, a, lowestBits(bitLength(own)));
                    ask(ranges, b, lowestBits(bitLength(own)));
                    break;
                case AND:
                    ask(ranges, a, own & maskOf(circuit, b));
                    ask(ranges, b, own & maskOf(circuit, a));
                    break;
                case OR:
                case EXCLUSIVE_OR:
                    ask(ranges, a, own);
                    ask(ranges, b, own);
                    break;
                case SHIFT_LEFT:
                    ask(ranges, a, own >>> b);
                    break;
                case SHIFT_RIGHT:
                    ask(ranges, a, beforeShiftRight(own, b));
                    break;
                case LESS:
                    ask(ranges, a, ALL_BITS);
                    ask(ranges, b, ALL_BITS);
                    break;
                case CHOICE:
                    ask(ranges, a, ALL_BITS);
                    ask(ranges, b, own);
                    ask(ranges, circuit.c[i], own);
                    break;
                default:
                    break;
            }
        }

        /** The bits that an "and" with this signal can let through. */
        private static int maskOf(Circuit circuit, int i) {
            return circuit.kind[i] == CONSTANT ? circuit.a[i] : ALL_BITS;
        }

        private static int beforeShiftRight(int own, int shift) {
            boolean usesSign = own >>> (INT_BITS - 1 - shift) != 0;
            return own << shift | (usesSign ? LEAST_INT : 0);
        }

        /** What the lowest bits of a number, as many as the signal is wide, represent. */
        int narrowed(int i, int number) {
            int kept = number & lowestBits(narrow[i]);
            if (!isNarrowSigned[i]) {
                return kept;
            }
            int unused = INT_BITS - narrow[i];
            return kept << unused >> unused;
        }

        int costIn(Circuit circuit, int i) {
            if (circuit.kind[i] == LESS && narrow[i] != 0) {
                return costFor(LESS, Math.max(narrow[circuit.a[i]], narrow[circuit.b[i]]));
            }
            return costFor(circuit.kind[i], narrow[i]);
        }

        int costOfAll(Circuit circuit) {
            int sum = 0;
            for (int i = 0; i < circuit.size; i++) {
                sum += costIn(circuit, i);
            }
            return sum;
        }

        int sumIn(Circuit circuit) {
            int sum = 0;
            for (int i = 0; i < circuit.size; i++) {
                sum += narrow[i];
            }
            return sum;
        }

        int zeroesIn(Circuit circuit) {
            int zeroes = 0;
            for (int i = 0; i < circuit.size; i++) {
                if (narrow[i] == 0) {
                    zeroes++;
                }
            }
            return zeroes;
        }
    }

    /** The units that carry out sums, differences and products. */
    private static final class UnitPlan {
        static final int NONE = -1;

        int size = 0;
        final int[] kind = new int[MAX_SIGNALS];
        final int[] widest = new int[MAX_SIGNALS];
        final int[] members = new int[MAX_SIGNALS];
        final int[] first = new int[MAX_SIGNALS];
        final int[] phases = new int[MAX_SIGNALS];
        final int[] ofSignal = new int[MAX_SIGNALS];

        void assign(Circuit circuit, Widths widths) {
            size = 0;
            for (int i = 0; i < circuit.size; i++) {
                boolean hasUnit = circuit.kind[i] >= SUM && circuit.kind[i] <= PRODUCT
                        && widths.narrow[i] != 0;
                ofSignal[i] = hasUnit ? place(circuit, i, widths.narrow[i]) : NONE;
            }
        }

        int costOf(int unit) {
            return costWith(unit, widest[unit], members[unit]);
        }

        int costOfAll() {
            int sum = 0;
            for (int unit = 0; unit < size; unit++) {
                sum += costOf(unit);
            }
            return sum;
        }

        private int place(Circuit circuit, int i, int width) {
            int phaseBit = 1 << circuit.phase[i];
            int unit = cheapest(circuit.kind[i], phaseBit, width);
            if (unit == NONE) {
                unit = size;
                size++;
                kind[unit] = circuit.kind[i];
                widest[unit] = 0;
                members[unit] = 0;
                first[unit] = i;
                phases[unit] = 0;
            }
            widest[unit] = Math.max(widest[unit], width);
            members[unit]++;
            phases[unit] |= phaseBit;
            return unit;
        }

        /** The unit that takes a signal in for less than its cost alone, or NONE. */
        private int cheapest(int wantedKind, int phaseBit, int width) {
            int best = NONE;
            int bestIncrease = costFor(wantedKind, width);
            for (int unit = 0; unit < size; unit++) {
                if (kind[unit] == wantedKind && (phases[unit] & phaseBit) == 0) {
                    int together = Math.max(widest[unit], width);
                    int increase = costWith(unit, together, members[unit] + 1)
                            - costWith(unit, widest[unit], members[unit]);
                    if (increase < bestIncrease) {
                        best = unit;
                        bestIncrease = increase;
                    }
                }
            }
            return best;
        }

        private int costWith(int unit, int width, int number) {
            return costFor(kind[unit], width) + width * (number - 1);
        }
    }

    /** The values that the signals of one machine have now. */
    private static final class Machine {
        final int[] now = new int[MAX_SIGNALS];

        void settle(Circuit circuit, int[] held) {
            for (int i = 0; i < circuit.size; i++) {
                now[i] = determine(circuit, held, i);
            }
        }

        void settleNarrowed(Circuit circuit, int[] held, Widths widths) {
            for (int i = 0; i < circuit.size; i++) {
                now[i] = widths.narrowed(i, determine(circuit, held, i));
            }
        }

        private int determine(Circuit circuit, int[] held, int i) {
            int a = circuit.a[i];
            int b = circuit.b[i];
            switch (circuit.kind[i]) {
                case INPUT:
                    return circuit.present[i];
                case CONSTANT:
                    return a;
                case REGISTER:
                    return held[i];
                case SUM:
                    return now[a] + now[b];
                case DIFFERENCE:
                    return now[a] - now[b];
                case PRODUCT:
                    return now[a] * now[b];
                case AND:
                    return now[a] & now[b];
                case OR:
                    return now[a] | now[b];
                case EXCLUSIVE_OR:
                    return now[a] ^ now[b];
                case SHIFT_LEFT:
                    return now[a] << b;
                case SHIFT_RIGHT:
                    return now[a] >> b;
                case LESS:
                    return now[a] < now[b] ? 1 : 0;
                default:
                    return now[a] != 0 ? now[b] : now[circuit.c[i]];
            }
        }
    }

    /** The input, and the items that its parsing finds. */
    private static final class Text {
        static final int MAX_LENGTH = 80;
        // The shortest items have two characters, and a semicolon stands between two items.
        static final int MAX_ITEMS = (MAX_LENGTH + 1) / 3;
        static final int MOST_DIGITS_OF_NUMBER = 4;
        static final int MOST_DIGITS_OF_SIGNAL = 2;
        static final int END = -1;
        static final int NO_KIND = -1;

        int length = 0;
        int at = 0;
        int itemCount = 0;
        final char[] characters = new char[MAX_LENGTH];
        final Item[] items = new Item[MAX_ITEMS];

        Text() {
            for (int i = 0; i < MAX_ITEMS; i++) {
                items[i] = new Item();
            }
        }

        int append(char character) {
            characters[length] = character;
            length++;
            return length;
        }

        /** If the input is no text, at and itemCount tell the place and the item of the fault. */
        boolean parse() {
            at = 0;
            itemCount = 0;
            while (itemCount < MAX_ITEMS) {
                if (!parseItem(items[itemCount])) {
                    return false;
                }
                boolean isLast = at == length;
                if (!isLast && !take(';')) {
                    return false;
                }
                itemCount++;
                if (isLast) {
                    return true;
                }
            }
            return false;
        }

        private int peek() {
            return at < length ? characters[at] : END;
        }

        private boolean take(char wanted) {
            if (peek() != wanted) {
                return false;
            }
            at++;
            return true;
        }

        private boolean parseItem(Item item) {
            if (take('i')) {
                item.become(INPUT, 0, 0, 0);
                return parseNumber(item, 0) && take(':') && parseNumber(item, 1);
            }
            if (take('k')) {
                item.become(CONSTANT, 0, 0, 0);
                return parseNumber(item, 0);
            }
            if (take('r')) {
                item.become(REGISTER, 0, 0, 0);
                return parseNumber(item, 0);
            }
            if (take('n')) {
                item.become(NEXT_ITEM, 0, 0, 0);
                return parseSignal(item, 0) && take(':') && parseSignal(item, 1);
            }
            if (take('o')) {
                item.become(OUTPUT_ITEM, 0, 0, 0);
                return parseSignal(item, 0);
            }
            item.become(SUM, 0, 0, 0);
            return parseSignal(item, 0) && parseOperation(item);
        }

        /** Parses what follows the first operand of an item that begins with a signal. */
        private boolean parseOperation(Item item) {
            int kind = kindOf(peek());
            if (kind == NO_KIND) {
                return false;
            }
            at++;
            item.become(kind, item.operand[0], 0, 0);
            // The digits behind a shift have the form of a signal, too.
            if (!parseSignal(item, 1)) {
                return false;
            }
            return kind != CHOICE || take(':') && parseSignal(item, 2);
        }

        private static int kindOf(int sign) {
            switch (sign) {
                case '+':
                    return SUM;
                case '-':
                    return DIFFERENCE;
                case '*':
                    return PRODUCT;
                case '&':
                    return AND;
                case '|':
                    return OR;
                case '^':
                    return EXCLUSIVE_OR;
                case 'l':
                    return SHIFT_LEFT;
                case 'h':
                    return SHIFT_RIGHT;
                case '<':
                    return LESS;
                case '?':
                    return CHOICE;
                default:
                    return NO_KIND;
            }
        }

        private boolean parseNumber(Item item, int index) {
            boolean isNegative = take('-');
            boolean isRight = parseDigits(item, index, MOST_DIGITS_OF_NUMBER);
            if (isNegative) {
                item.operand[index] = -item.operand[index];
            }
            return isRight;
        }

        private boolean parseSignal(Item item, int index) {
            return parseDigits(item, index, MOST_DIGITS_OF_SIGNAL);
        }

        private boolean parseDigits(Item item, int index, int most) {
            int number = 0;
            int digits = 0;
            while (digits < most && isDigit(peek())) {
                number = 10 * number + (peek() - '0');
                at++;
                digits++;
            }
            item.operand[index] = number;
            return digits > 0;
        }

        private static boolean isDigit(int sign) {
            return sign >= '0' && sign <= '9';
        }
    }

    /** The faults of the latest call of read, each level caused by the one behind it. */
    private static final class Faults {
        static final int MAX_LEVELS = 3;

        int levels = 0;
        final int[] kind = new int[MAX_LEVELS];
        final int[] place = new int[MAX_LEVELS];

        void forget() {
            levels = 0;
        }

        void become(int item, int kindOfCause, int placeOfCause) {
            kind[0] = FAULT_OF_ITEM;
            place[0] = item;
            kind[1] = kindOfCause;
            place[1] = placeOfCause;
            levels = 2;
        }

        void addCause(int kindOfCause, int placeOfCause) {
            kind[2] = kindOfCause;
            place[2] = placeOfCause;
            levels = MAX_LEVELS;
        }
    }
}
