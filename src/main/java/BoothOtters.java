/** Otters that multiply by recoded digits, in registers of some width. */
public final class BoothOtters {
    public static final int NONE = -1;
    public static final int PAIRS = 0;
    public static final int TRIPLES = 1;
    public static final int SPARSE = 2;

    private static final int REGISTERS = 6;
    private static final int WIDTH_AT_FIRST = 8;
    private static final int LEAST_WIDTH = 4;
    private static final int GREATEST_WIDTH = 16;
    private static final int INT_BITS = 32;
    private static final int RECORDED_AT_MOST = 4;
    private static final int PROGRAM_AT_MOST = 60;
    private static final int GREATEST_NUMBER = 32767;

    private final State now = new State();
    private final History history = new History();
    private final State snapshot = new State();
    private boolean snapshotTaken;
    private final Program program = new Program();
    /** Made once: firstOverflow() needs a state to spoil, and no call should make objects. */
    private final State trial = new State();

    public BoothOtters() {
    }

    // ---- actions

    public int setWidth(int bits) throws IllegalArgumentException {
        if (bits < LEAST_WIDTH || bits > GREATEST_WIDTH) {
            throw new IllegalArgumentException("no such width");
        }
        history.record(now);
        int previous = now.width;
        now.changeWidth(bits);
        return previous;
    }

    public int set(int register, int value) throws IndexOutOfBoundsException, IllegalArgumentException {
        checkRegister(register);
        if (!now.isValue(value)) {
            throw new IllegalArgumentException("no value of the width");
        }
        history.record(now);
        int previous = now.valueIn(register);
        now.put(register, value);
        return previous;
    }

    public int begin(int multiplicand, int multiplier, int recoding)
            throws IndexOutOfBoundsException, IllegalArgumentException, IllegalStateException {
        checkRegister(multiplicand);
        checkRegister(multiplier);
        if (recoding != PAIRS && recoding != TRIPLES) {
            throw new IllegalArgumentException("no recoding to multiply by");
        }
        checkRecodingSuitsWidth(recoding);
        history.record(now);
        now.multiplication.start(now.valueIn(multiplicand), now.bitsIn(multiplier), recoding, now.width);
        return now.multiplication.stepsLeft;
    }

    public int step() throws IllegalStateException {
        if (now.multiplication.stepsLeft <= 0) {
            throw new IllegalStateException("no step to make");
        }
        history.record(now);
        return now.makeStep();
    }

    public int finish() throws IllegalStateException {
        checkMultiplying();
        history.record(now);
        int rows = 0;
        for (int left = now.multiplication.stepsLeft; left > 0; left--) {
            if (now.makeStep() != 0) {
                rows++;
            }
        }
        return rows;
    }

    public int store(int register) throws IndexOutOfBoundsException, IllegalStateException {
        checkRegister(register);
        if (now.multiplication.stepsLeft != 0) {
            throw new IllegalStateException("no product is ready");
        }
        history.record(now);
        return now.put(register, now.multiplication.product());
    }

    // ---- programs

    public int type(char character) throws IllegalStateException {
        if (program.isFull()) {
            throw new IllegalStateException("the program is full");
        }
        program.append(character);
        return program.length;
    }

    public int clearProgram() {
        int previous = program.length;
        program.length = 0;
        return previous;
    }

    public int programError() {
        return program.firstError();
    }

    public int firstOverflow() throws IllegalStateException {
        checkProgram();
        trial.copyFrom(now);
        program.runOn(trial);
        return program.overflowOfRun;
    }

    public int carryOut() throws IllegalStateException {
        checkProgram();
        history.record(now);
        program.runOn(now);
        return program.resultOfRun;
    }

    // ---- undo, snapshot

    public int undo() throws IllegalStateException {
        if (history.count <= 0) {
            throw new IllegalStateException("no state is recorded");
        }
        history.takeLatestInto(now);
        return history.count;
    }

    public int takeSnapshot() {
        snapshot.copyFrom(now);
        snapshotTaken = true;
        return now.width;
    }

    public int restoreSnapshot() throws IllegalStateException {
        if (!snapshotTaken) {
            throw new IllegalStateException("there is no snapshot");
        }
        history.record(now);
        now.copyFrom(snapshot);
        return now.width;
    }

    // ---- registers and digits

    public int width() {
        return now.width;
    }

    public int valueOf(int register) throws IndexOutOfBoundsException {
        checkRegister(register);
        return now.valueIn(register);
    }

    public int onesOf(int register) throws IndexOutOfBoundsException {
        checkRegister(register);
        return Integer.bitCount(now.bitsIn(register));
    }

    public int digitAt(int register, int recoding, int place)
            throws IndexOutOfBoundsException, IllegalArgumentException, IllegalStateException {
        checkRegister(register);
        // The document lists the missing digit ahead of the missing recoding and of the odd width.
        if (isRecoding(recoding) && (place < 0 || place >= digitCount(recoding, now.width))) {
            throw new IndexOutOfBoundsException("no such digit");
        }
        checkRecoding(recoding);
        checkRecodingSuitsWidth(recoding);
        return digit(now.valueIn(register), recoding, place);
    }

    public int rowsOf(int register, int recoding)
            throws IndexOutOfBoundsException, IllegalArgumentException, IllegalStateException {
        checkRegister(register);
        checkRecoding(recoding);
        checkRecodingSuitsWidth(recoding);
        int rows = 0;
        for (int place = 0; place < digitCount(recoding, now.width); place++) {
            if (digit(now.valueIn(register), recoding, place) != 0) {
                rows++;
            }
        }
        return rows;
    }

    // ---- products

    public int productByRows(int multiplicand, int multiplier, int recoding)
            throws IndexOutOfBoundsException, IllegalArgumentException, IllegalStateException {
        checkRegister(multiplicand);
        checkRegister(multiplier);
        checkRecoding(recoding);
        checkRecodingSuitsWidth(recoding);
        int sum = 0;
        for (int place = 0; place < digitCount(recoding, now.width); place++) {
            int row = digit(now.valueIn(multiplier), recoding, place) * now.valueIn(multiplicand);
            sum += row << (place * bitsPerDigit(recoding));
        }
        return sum;
    }

    public int productByBits(int multiplicand, int multiplier) throws IndexOutOfBoundsException {
        checkRegister(multiplicand);
        checkRegister(multiplier);
        int uppermost = now.width - 1;
        int sum = 0;
        for (int place = 0; place < uppermost; place++) {
            sum += bit(now.valueIn(multiplier), place) * now.valueIn(multiplicand) << place;
        }
        return sum - (bit(now.valueIn(multiplier), uppermost) * now.valueIn(multiplicand) << uppermost);
    }

    public boolean fits(int multiplicand, int multiplier) throws IndexOutOfBoundsException {
        checkRegister(multiplicand);
        checkRegister(multiplier);
        return now.isValue(now.valueIn(multiplicand) * now.valueIn(multiplier));
    }

    public int stepsLeft() {
        return now.multiplication.stepsLeft;
    }

    public int highPart() throws IllegalStateException {
        checkMultiplying();
        return now.multiplication.high;
    }

    public int lowPart() throws IllegalStateException {
        checkMultiplying();
        return now.multiplication.low;
    }

    public int extraBit() throws IllegalStateException {
        checkMultiplying();
        return now.multiplication.extra;
    }

    // ---- carries

    public int carries(int register, int other) throws IndexOutOfBoundsException {
        checkRegister(register);
        checkRegister(other);
        return Integer.bitCount(carryBits(now.bitsIn(register), now.bitsIn(other)));
    }

    public int longestRun(int register, int other) throws IndexOutOfBoundsException {
        checkRegister(register);
        checkRegister(other);
        int carried = carryBits(now.bitsIn(register), now.bitsIn(other));
        int longest = 0;
        int run = 0;
        for (int place = 0; place < now.width; place++) {
            run = bit(carried, place) == 1 ? run + 1 : 0;
            longest = Math.max(longest, run);
        }
        return longest;
    }

    public int overflows() {
        return now.overflows;
    }

    public int stepsMade() {
        return now.stepsMade;
    }

    public int recordedStates() {
        return history.count;
    }

    // ---- what the calls look at before they act

    private static void checkRegister(int register) {
        if (!isRegister(register)) {
            throw new IndexOutOfBoundsException("no such register");
        }
    }

    private static void checkRecoding(int recoding) {
        if (!isRecoding(recoding)) {
            throw new IllegalArgumentException("no such recoding");
        }
    }

    private void checkRecodingSuitsWidth(int recoding) {
        if (recoding == TRIPLES && now.width % 2 != 0) {
            throw new IllegalStateException("triples need an even width");
        }
    }

    private void checkMultiplying() {
        if (now.multiplication.stepsLeft == NONE) {
            throw new IllegalStateException("nothing is multiplied");
        }
    }

    private void checkProgram() {
        if (program.firstError() != NONE) {
            throw new IllegalStateException("the program is not valid");
        }
    }

    private static boolean isRegister(int register) {
        return register >= 0 && register < REGISTERS;
    }

    private static boolean isRecoding(int recoding) {
        return recoding == PAIRS || recoding == TRIPLES || recoding == SPARSE;
    }

    // ---- bits and digits

    private static int bit(int value, int place) {
        return (value >> place) & 1;
    }

    private static int bitsPerDigit(int recoding) {
        return recoding == TRIPLES ? 2 : 1;
    }

    private static int digitCount(int recoding, int width) {
        return recoding == TRIPLES ? width / 2 : width;
    }

    private static int digit(int value, int recoding, int place) {
        // Doubled, so that bit -1 of the value, which is 0, stands at a place that a shift can reach.
        int doubled = value << 1;
        switch (recoding) {
            case PAIRS:
                return bit(doubled, place) - bit(doubled, place + 1);
            case TRIPLES:
                return bit(doubled, 2 * place) + bit(doubled, 2 * place + 1) - 2 * bit(doubled, 2 * place + 2);
            default:
                // 3v - v is 2v; taken bit from bit without borrowing, it never leaves two neighbours.
                return bit(3 * value, place + 1) - bit(value, place + 1);
        }
    }

    /** Bit k of the answer is the carry out of bit k. */
    private static int carryBits(int bits, int otherBits) {
        // A sum's bit differs from the "exclusive or" of its bits just where a carry came in from below.
        return (bits ^ otherBits ^ (bits + otherBits)) >> 1;
    }

    /** All that undo and the snapshot bring back. */
    private static final class State {
        final int[] values = new int[REGISTERS];
        final Multiplication multiplication = new Multiplication();
        int width = WIDTH_AT_FIRST;
        int overflows;
        int stepsMade;

        void copyFrom(State other) {
            for (int register = 0; register < REGISTERS; register++) {
                values[register] = other.values[register];
            }
            multiplication.copyFrom(other.multiplication);
            width = other.width;
            overflows = other.overflows;
            stepsMade = other.stepsMade;
        }

        /** The value of a register; 0 where a step of a program names none. */
        int valueIn(int register) {
            return isRegister(register) ? values[register] : 0;
        }

        int bitsIn(int register) {
            return valueIn(register) & ((1 << width) - 1);
        }

        int wrapped(int number) {
            int above = INT_BITS - width;
            return number << above >> above;
        }

        boolean isValue(int number) {
            return wrapped(number) == number;
        }

        /** Puts a result into a register, wrapped, and counts the overflow if it is one. */
        int put(int register, int result) {
            int value = wrapped(result);
            if (value != result) {
                overflows++;
            }
            if (isRegister(register)) {
                values[register] = value;
            }
            return value;
        }

        void changeWidth(int bits) {
            width = bits;
            for (int register = 0; register < REGISTERS; register++) {
                values[register] = wrapped(values[register]);
            }
            multiplication.giveUp();
        }

        int makeStep() {
            stepsMade++;
            return multiplication.makeStep();
        }
    }

    /** A multiplication step by step. */
    private static final class Multiplication {
        /** NONE: nothing is multiplied. */
        int stepsLeft = NONE;
        int bitsPerStep = 1;
        int width = WIDTH_AT_FIRST;
        int multiplicand;
        int high;
        int low;
        int extra;

        void copyFrom(Multiplication other) {
            stepsLeft = other.stepsLeft;
            bitsPerStep = other.bitsPerStep;
            width = other.width;
            multiplicand = other.multiplicand;
            high = other.high;
            low = other.low;
            extra = other.extra;
        }

        void start(int multiplicandValue, int multiplierBits, int recoding, int bits) {
            stepsLeft = digitCount(recoding, bits);
            bitsPerStep = bitsPerDigit(recoding);
            width = bits;
            multiplicand = multiplicandValue;
            high = 0;
            low = multiplierBits;
            extra = 0;
        }

        void giveUp() {
            stepsLeft = NONE;
        }

        int makeStep() {
            int made = nextDigit();
            high += made * multiplicand;
            extra = bit(low, bitsPerStep - 1);
            int leaving = high & ((1 << bitsPerStep) - 1);
            low = (low >> bitsPerStep) | (leaving << (width - bitsPerStep));
            high >>= bitsPerStep;
            stepsLeft--;
            return made;
        }

        private int nextDigit() {
            if (bitsPerStep == 1) {
                return extra - bit(low, 0);
            }
            return extra + bit(low, 0) - 2 * bit(low, 1);
        }

        int product() {
            return (high << width) + low;
        }
    }

    /** The states recorded last, in a ring: the oldest gives its place to the newest. */
    private static final class History {
        private final State[] states = {new State(), new State(), new State(), new State()};
        private int next;
        int count;

        void record(State state) {
            placeOf(next).copyFrom(state);
            next++;
            count = Math.min(count + 1, RECORDED_AT_MOST);
        }

        void takeLatestInto(State state) {
            next--;
            state.copyFrom(placeOf(next));
            count--;
        }

        /** Each number has a place, so that no index can miss the ring. */
        private State placeOf(int number) {
            return states[Math.floorMod(number, RECORDED_AT_MOST)];
        }
    }

    /** The text of a program, looked through anew at each call that asks for it. */
    private static final class Program {
        private final char[] text = new char[PROGRAM_AT_MOST];
        private final StepReader reader = new StepReader();
        int length;
        int resultOfRun;
        int overflowOfRun = NONE;

        boolean isFull() {
            return length >= PROGRAM_AT_MOST;
        }

        void append(char character) {
            if (!isFull()) {
                text[length] = character;
                length++;
            }
        }

        int firstError() {
            reader.start();
            for (int at = 0; at < length; at++) {
                boolean possible = text[at] == ';' ? reader.startNext() : reader.take(text[at]);
                if (!possible) {
                    return at;
                }
            }
            return reader.isWhole() ? NONE : length;
        }

        /** Does all steps on the state; the program must be valid. */
        void runOn(State state) {
            overflowOfRun = NONE;
            int number = 0;
            reader.start();
            for (int at = 0; at <= length; at++) {
                if (at < length && text[at] != ';') {
                    reader.take(text[at]);
                } else {
                    doStep(state, number);
                    number++;
                    reader.start();
                }
            }
        }

        private void doStep(State state, int number) {
            int before = state.overflows;
            resultOfRun = state.put(reader.target, reader.resultOn(state));
            if (state.overflows != before && overflowOfRun == NONE) {
                overflowOfRun = number;
            }
        }
    }

    /** Reads one step of a program, character by character. */
    private static final class StepReader {
        // What stands next: the stages of a step.
        private static final int TARGET = 0;
        private static final int EQUALS_SIGN = 1;
        private static final int SOURCE = 2;
        private static final int OPERATOR = 3;
        private static final int SECOND = 4;
        private static final int NUMBER = 5;
        private static final int FIRST_DIGIT = 6;
        private static final int MORE_DIGITS = 7;
        private static final int END = 8;

        private int stage;
        int target;
        private int first;
        private char operator;
        private int second;
        private boolean negative;
        private int number;

        void start() {
            stage = TARGET;
            target = NONE;
            first = NONE;
            // A lone register is told as that register plus none, "-" and a register as none less that one.
            operator = '+';
            second = NONE;
            negative = false;
            number = 0;
        }

        /** Starts on the step behind a ";"; false if the step ahead of it is not whole. */
        boolean startNext() {
            boolean whole = isWhole();
            start();
            return whole;
        }

        /** Takes the next character; false, and nothing is taken, if no valid program has it here. */
        boolean take(char character) {
            int next = stageAfter(character);
            if (next == NONE) {
                return false;
            }
            note(character);
            stage = next;
            return true;
        }

        boolean isWhole() {
            return stage == OPERATOR || stage == MORE_DIGITS || stage == END;
        }

        int resultOn(State state) {
            switch (operator) {
                case '+':
                    return state.valueIn(first) + state.valueIn(second);
                case '-':
                    return state.valueIn(first) - state.valueIn(second);
                case '*':
                    return state.valueIn(first) * state.valueIn(second);
                default:
                    return negative ? -number : number;
            }
        }

        private int stageAfter(char character) {
            switch (stage) {
                case TARGET:
                    return isLetter(character) ? EQUALS_SIGN : NONE;
                case EQUALS_SIGN:
                    return character == '=' ? SOURCE : NONE;
                case SOURCE:
                    return stageAfterSource(character);
                case OPERATOR:
                    return character == '+' || character == '-' || character == '*' ? SECOND : NONE;
                case SECOND:
                    return isLetter(character) ? END : NONE;
                case NUMBER:
                    return stageAfterNumberSign(character);
                case FIRST_DIGIT:
                    return isDigit(character) && character != '0' ? MORE_DIGITS : NONE;
                case MORE_DIGITS:
                    return isDigit(character) && withDigit(character) <= greatestSize() ? MORE_DIGITS : NONE;
                default:
                    return NONE;
            }
        }

        private static int stageAfterSource(char character) {
            if (isLetter(character)) {
                return OPERATOR;
            }
            if (character == '-') {
                return SECOND;
            }
            return character == '#' ? NUMBER : NONE;
        }

        private static int stageAfterNumberSign(char character) {
            if (character == '-') {
                return FIRST_DIGIT;
            }
            if (character == '0') {
                return END;
            }
            return isDigit(character) ? MORE_DIGITS : NONE;
        }

        private void note(char character) {
            switch (stage) {
                case TARGET:
                    target = character - 'A';
                    break;
                case SOURCE:
                    noteSource(character);
                    break;
                case OPERATOR:
                    operator = character;
                    break;
                case SECOND:
                    second = character - 'A';
                    break;
                case NUMBER:
                case FIRST_DIGIT:
                case MORE_DIGITS:
                    noteNumber(character);
                    break;
                default:
                    break;
            }
        }

        private void noteSource(char character) {
            if (isLetter(character)) {
                first = character - 'A';
            } else {
                operator = character;
            }
        }

        private void noteNumber(char character) {
            if (character == '-') {
                negative = true;
            } else {
                number = withDigit(character);
            }
        }

        private int withDigit(char digit) {
            return number * 10 + (digit - '0');
        }

        private int greatestSize() {
            return negative ? GREATEST_NUMBER + 1 : GREATEST_NUMBER;
        }

        private static boolean isLetter(char character) {
            return character >= 'A' && character <= 'F';
        }

        private static boolean isDigit(char character) {
            return character >= '0' && character <= '9';
        }
    }
}
