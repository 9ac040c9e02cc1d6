import java.util.ArrayDeque;
import java.util.Deque;
import java.util.regex.Matcher;
import java.util.regex.Pattern;

/** The document once more, in another and slower way: it shares no line and no trick with the class. */
final class Model {
    private static final Pattern STEP =
            Pattern.compile("([A-F])=(?:([A-F])|-([A-F])|([A-F])([-+*])([A-F])|#(0|-?[1-9][0-9]{0,4}))");
    /** Each text that could still become valid becomes so by one of these. */
    private static final String[] ENDINGS = {"", "A", "=A", "A=A", "1"};

    /** What undo and the snapshot bring back. */
    private static final class State {
        int width = 8;
        long[] values = new long[6];
        boolean multiplying;
        int recoding;
        int left;
        long multiplicand;
        long high;
        long low;
        long extra;
        int overflows;
        int steps;

        State copy() {
            State copy = new State();
            copy.width = width;
            copy.values = values.clone();
            copy.multiplying = multiplying;
            copy.recoding = recoding;
            copy.left = left;
            copy.multiplicand = multiplicand;
            copy.high = high;
            copy.low = low;
            copy.extra = extra;
            copy.overflows = overflows;
            copy.steps = steps;
            return copy;
        }
    }

    private State now = new State();
    private State snapshot;
    private final Deque<State> recorded = new ArrayDeque<>();
    private String program = "";

    // ---- actions

    long setWidth(int bits) {
        require(bits >= 4 && bits <= 16, new IllegalArgumentException());
        record();
        int previous = now.width;
        now.width = bits;
        for (int register = 0; register < 6; register++) {
            now.values[register] = wrap(now.values[register]);
        }
        now.multiplying = false;
        return previous;
    }

    long set(int register, int value) {
        register(register);
        require(isValue(value), new IllegalArgumentException());
        record();
        long previous = now.values[register];
        now.values[register] = value;
        return previous;
    }

    long begin(int multiplicand, int multiplier, int recoding) {
        register(multiplicand);
        register(multiplier);
        require(recoding == 0 || recoding == 1, new IllegalArgumentException());
        suits(recoding);
        record();
        now.multiplying = true;
        now.recoding = recoding;
        now.left = digits(recoding);
        now.multiplicand = now.values[multiplicand];
        now.high = 0;
        now.low = Math.floorMod(now.values[multiplier], power());
        now.extra = 0;
        return now.left;
    }

    long step() {
        require(now.multiplying && now.left > 0, new IllegalStateException());
        record();
        return makeStep();
    }

    long finish() {
        require(now.multiplying, new IllegalStateException());
        record();
        int rows = 0;
        while (now.left > 0) {
            if (makeStep() != 0) {
                rows++;
            }
        }
        return rows;
    }

    private long makeStep() {
        long digit = now.extra + now.low % 2;
        int shifts = 1;
        if (now.recoding == 0) {
            digit = now.extra - now.low % 2;
            now.extra = now.low % 2;
        } else {
            digit -= 2 * (now.low / 2 % 2);
            now.extra = now.low / 2 % 2;
            shifts = 2;
        }
        now.high += digit * now.multiplicand;
        for (int shift = 0; shift < shifts; shift++) {
            now.low = now.low / 2 + Math.floorMod(now.high, 2L) * (power() / 2);
            now.high = Math.floorDiv(now.high, 2L);
        }
        now.left--;
        now.steps++;
        return digit;
    }

    long store(int register) {
        register(register);
        require(now.multiplying && now.left == 0, new IllegalStateException());
        record();
        return put(now, register, now.high * power() + now.low);
    }

    // ---- programs

    long type(char character) {
        require(program.length() < 60, new IllegalStateException());
        program += character;
        return program.length();
    }

    long clearProgram() {
        int length = program.length();
        program = "";
        return length;
    }

    long programError() {
        if (isValid(program)) {
            return -1;
        }
        for (int length = 1; length <= program.length(); length++) {
            if (!isBeginning(program.substring(0, length))) {
                return length - 1;
            }
        }
        return program.length();
    }

    private static boolean isBeginning(String text) {
        for (String ending : ENDINGS) {
            if (isValid(text + ending)) {
                return true;
            }
        }
        return false;
    }

    private static boolean isValid(String text) {
        for (String step : text.split(";", -1)) {
            Matcher matcher = STEP.matcher(step);
            if (!matcher.matches()) {
                return false;
            }
            if (matcher.group(7) != null) {
                int number = Integer.parseInt(matcher.group(7));
                if (number < -32768 || number > 32767) {
                    return false;
                }
            }
        }
        return true;
    }

    long firstOverflow() {
        require(isValid(program), new IllegalStateException());
        State trial = now.copy();
        String[] steps = program.split(";");
        for (int number = 0; number < steps.length; number++) {
            carryOut(trial, steps[number]);
            if (trial.overflows != now.overflows) {
                return number;
            }
        }
        return -1;
    }

    long carryOut() {
        require(isValid(program), new IllegalStateException());
        record();
        long last = 0;
        for (String step : program.split(";")) {
            last = carryOut(now, step);
        }
        return last;
    }

    private static long carryOut(State state, String step) {
        Matcher matcher = STEP.matcher(step);
        if (!matcher.matches()) {
            throw new AssertionError(step);
        }
        long result;
        if (matcher.group(2) != null) {
            result = value(state, matcher.group(2));
        } else if (matcher.group(3) != null) {
            result = -value(state, matcher.group(3));
        } else if (matcher.group(7) != null) {
            result = Long.parseLong(matcher.group(7));
        } else {
            long left = value(state, matcher.group(4));
            long right = value(state, matcher.group(6));
            String sign = matcher.group(5);
            result = sign.equals("+") ? left + right : sign.equals("-") ? left - right : left * right;
        }
        return put(state, matcher.group(1).charAt(0) - 'A', result);
    }

    private static long value(State state, String letter) {
        return state.values["ABCDEF".indexOf(letter)];
    }

    // ---- undo, snapshot

    long undo() {
        require(!recorded.isEmpty(), new IllegalStateException());
        now = recorded.pop();
        return recorded.size();
    }

    long takeSnapshot() {
        snapshot = now.copy();
        return now.width;
    }

    long restoreSnapshot() {
        require(snapshot != null, new IllegalStateException());
        record();
        now = snapshot.copy();
        return now.width;
    }

    private void record() {
        recorded.push(now.copy());
        if (recorded.size() > 4) {
            recorded.removeLast();
        }
    }

    // ---- registers and digits

    long width() {
        return now.width;
    }

    long valueOf(int register) {
        register(register);
        return now.values[register];
    }

    long onesOf(int register) {
        register(register);
        return bits(register).replace("0", "").length();
    }

    long digitAt(int register, int recoding, int place) {
        register(register);
        boolean known = recoding >= 0 && recoding <= 2;
        require(!known || (place >= 0 && place < digits(recoding)), new IndexOutOfBoundsException());
        require(known, new IllegalArgumentException());
        suits(recoding);
        return allDigits(register, recoding)[place];
    }

    long rowsOf(int register, int recoding) {
        register(register);
        require(recoding >= 0 && recoding <= 2, new IllegalArgumentException());
        suits(recoding);
        int rows = 0;
        for (int digit : allDigits(register, recoding)) {
            rows += Math.abs(Integer.signum(digit));
        }
        return rows;
    }

    private int[] allDigits(int register, int recoding) {
        int[] found = new int[digits(recoding)];
        long rest = now.values[register];
        for (int place = 0; place < found.length; place++) {
            if (recoding == 0) {
                found[place] = bit(register, place - 1) - bit(register, place);
            } else if (recoding == 1) {
                found[place] = bit(register, 2 * place - 1) + bit(register, 2 * place)
                        - 2 * bit(register, 2 * place + 1);
            } else {
                if (Math.floorMod(rest, 2L) == 1) {
                    found[place] = Math.floorMod(rest, 4L) == 1 ? 1 : -1;
                }
                rest = (rest - found[place]) / 2;
            }
        }
        return found;
    }

    // ---- products

    long productByRows(int multiplicand, int multiplier, int recoding) {
        register(multiplicand);
        register(multiplier);
        require(recoding >= 0 && recoding <= 2, new IllegalArgumentException());
        suits(recoding);
        return now.values[multiplicand] * now.values[multiplier];
    }

    long productByBits(int multiplicand, int multiplier) {
        register(multiplicand);
        register(multiplier);
        return now.values[multiplicand] * now.values[multiplier];
    }

    long fits(int multiplicand, int multiplier) {
        return isValue(productByBits(multiplicand, multiplier)) ? 1 : 0;
    }

    long stepsLeft() {
        return now.multiplying ? now.left : -1;
    }

    long highPart() {
        require(now.multiplying, new IllegalStateException());
        return now.high;
    }

    long lowPart() {
        require(now.multiplying, new IllegalStateException());
        return now.low;
    }

    long extraBit() {
        require(now.multiplying, new IllegalStateException());
        return now.extra;
    }

    // ---- carries

    long carries(int register, int other) {
        return carried(register, other).replace(".", "").length();
    }

    long longestRun(int register, int other) {
        int longest = 0;
        for (String run : carried(register, other).split("\\.")) {
            longest = Math.max(longest, run.length());
        }
        return longest;
    }

    private String carried(int register, int other) {
        register(register);
        register(other);
        StringBuilder carried = new StringBuilder();
        int carry = 0;
        for (int place = 0; place < now.width; place++) {
            carry = (bit(register, place) + bit(other, place) + carry) / 2;
            carried.append(carry == 1 ? 'c' : '.');
        }
        return carried.toString();
    }

    long overflows() {
        return now.overflows;
    }

    long stepsMade() {
        return now.steps;
    }

    long recordedStates() {
        return recorded.size();
    }

    // ---- helpers

    private static void require(boolean holds, RuntimeException otherwise) {
        if (!holds) {
            throw otherwise;
        }
    }

    private static void register(int register) {
        require(register >= 0 && register < 6, new IndexOutOfBoundsException());
    }

    private void suits(int recoding) {
        require(recoding != 1 || now.width % 2 == 0, new IllegalStateException());
    }

    private int digits(int recoding) {
        return recoding == 1 ? now.width / 2 : now.width;
    }

    private long power() {
        return 1L << now.width;
    }

    /** The bits of a register, bit 0 last. */
    private String bits(int register) {
        return Long.toBinaryString(Math.floorMod(now.values[register], power()));
    }

    private int bit(int register, int place) {
        String bits = bits(register);
        int at = bits.length() - 1 - place;
        return place < 0 || at < 0 ? 0 : bits.charAt(at) - '0';
    }

    private long wrap(long number) {
        return wrap(now, number);
    }

    private static long wrap(State state, long number) {
        long power = 1L << state.width;
        long rest = Math.floorMod(number, power);
        return rest >= power / 2 ? rest - power : rest;
    }

    private boolean isValue(long number) {
        long half = power() / 2;
        return number >= -half && number < half;
    }

    private static long put(State state, int register, long result) {
        long wrapped = wrap(state, result);
        if (wrapped != result) {
            state.overflows++;
        }
        state.values[register] = wrapped;
        return wrapped;
    }
}
