/** Promises 4 to 7, 24 to 27 and 31: begin, step, finish, store, the parts, stepsLeft and stepsMade. */
final class MultiplyingTest {
    private static final Class<IllegalStateException> STATE = IllegalStateException.class;
    private static final Checks CHECKS = new Checks();

    public static void main(String[] args) {
        pairsWrittenOut();
        triplesWrittenOut();
        for (int width = 4; width <= 7; width++) {
            allPairs(width, 1);
        }
        allPairs(8, 5);
        allPairs(15, 1999);
        allPairs(16, 1999);
        valuesOfThen();
        finishing();
        CHECKS.end();
    }

    /** 3 times -6 at width 4, worked out by hand. */
    private static void pairsWrittenOut() {
        BoothOtters otters = new BoothOtters();
        otters.setWidth(4);
        otters.set(0, 3);
        otters.set(1, -6);
        CHECKS.same("begin by PAIRS", otters.begin(0, 1, BoothOtters.PAIRS), 4);
        parts(otters, 4, 0, 10, 0);
        stepTo(otters, 0, 3, 0, 5, 0);
        stepTo(otters, -1, 2, -2, 10, 1);
        stepTo(otters, 1, 1, 0, 13, 0);
        stepTo(otters, -1, 0, -2, 14, 1);
        CHECKS.same("stepsMade()", otters.stepsMade(), 4);
        CHECKS.refuses(otters, "a step when none are left", STATE, () -> otters.step());
        CHECKS.same("store of -18", otters.store(2), -2);
        CHECKS.same("-18 is an overflow at width 4", otters.overflows(), 1);
    }

    /** 7 times -6 at width 8: as the shared run has it, step by step. */
    private static void triplesWrittenOut() {
        BoothOtters otters = new BoothOtters();
        otters.set(0, 7);
        otters.set(1, -6);
        CHECKS.same("begin by TRIPLES", otters.begin(0, 1, BoothOtters.TRIPLES), 4);
        parts(otters, 4, 0, 250, 0);
        stepTo(otters, -2, 3, -4, 190, 1);
        stepTo(otters, -1, 2, -3, 111, 1);
        stepTo(otters, 0, 1, -1, 91, 1);
        stepTo(otters, 0, 0, -1, 214, 1);
        CHECKS.same("stepsMade()", otters.stepsMade(), 4);
        CHECKS.same("store of -42", otters.store(1), -42);
        CHECKS.same("valueOf after store", otters.valueOf(1), -42);
        CHECKS.same("-42 is no overflow", otters.overflows(), 0);
        CHECKS.same("the multiplication stands after store", otters.stepsLeft(), 0);
    }

    private static void stepTo(BoothOtters otters, int digit, int left, int high, int low, int extra) {
        CHECKS.same("step()", otters.step(), digit);
        parts(otters, left, high, low, extra);
    }

    private static void parts(BoothOtters otters, int left, int high, int low, int extra) {
        CHECKS.same("stepsLeft()", otters.stepsLeft(), left);
        CHECKS.same("highPart()", otters.highPart(), high);
        CHECKS.same("lowPart()", otters.lowPart(), low);
        CHECKS.same("extraBit()", otters.extraBit(), extra);
    }

    private static void allPairs(int width, int apart) {
        int half = 1 << (width - 1);
        for (int a = -half; a < half; a += apart) {
            for (int b = -half; b < half; b += apart) {
                BoothOtters otters = Checks.made(width, a, b);
                multiply(otters, width, BoothOtters.PAIRS, (long) a * b);
                if (width % 2 == 0) {
                    multiply(otters, width, BoothOtters.TRIPLES, (long) a * b);
                }
            }
        }
    }

    private static void multiply(BoothOtters otters, int width, int recoding, long product) {
        int made = otters.stepsMade();
        int rows = 0;
        int steps = otters.begin(0, 1, recoding);
        CHECKS.same("begin", steps, recoding == BoothOtters.PAIRS ? width : width / 2);
        for (int place = 0; place < steps / 2; place++) {
            int digit = otters.step();
            CHECKS.same("a step's digit", digit, otters.digitAt(1, recoding, place));
            rows += digit == 0 ? 0 : 1;
        }
        CHECKS.same("finish", otters.finish(), otters.rowsOf(1, recoding) - rows);
        CHECKS.same("stepsMade", otters.stepsMade() - made, steps);
        CHECKS.same("the product", ((long) otters.highPart() << width) + otters.lowPart(), product);
        CHECKS.holds("the low part is from 0 to 2^w - 1", otters.lowPart() >= 0 && otters.lowPart() < 1 << width);
        int overflows = otters.overflows();
        long wrapped = Math.floorMod(product + (1L << (width - 1)), 1L << width) - (1L << (width - 1));
        CHECKS.same("store", otters.store(2), wrapped);
        CHECKS.same("overflows", otters.overflows() - overflows, wrapped == product ? 0 : 1);
    }

    /** What counts is the value that a register has when the multiplication begins. */
    private static void valuesOfThen() {
        BoothOtters otters = new BoothOtters();
        otters.set(0, 9);
        otters.set(1, -5);
        otters.begin(0, 1, BoothOtters.PAIRS);
        otters.step();
        otters.set(0, 1);
        otters.set(1, 1);
        otters.finish();
        CHECKS.same("9 times -5, though the registers changed", otters.store(5), -45);
        otters.begin(1, 5, BoothOtters.TRIPLES);
        CHECKS.same("another begin gives the first one up", otters.stepsLeft(), 4);
        parts(otters, 4, 0, 256 - 45, 0);
        CHECKS.same("stepsMade() goes on counting", otters.stepsMade(), 8);
    }

    private static void finishing() {
        BoothOtters otters = new BoothOtters();
        otters.set(0, 1);
        otters.set(1, 85);
        otters.begin(0, 1, BoothOtters.PAIRS);
        otters.step();
        otters.step();
        otters.step();
        CHECKS.same("finish counts the digits of its own steps", otters.finish(), 5);
        CHECKS.same("stepsLeft() after finish", otters.stepsLeft(), 0);
        int recorded = otters.recordedStates();
        CHECKS.same("recorded", recorded, 4);
        CHECKS.same("finish with no steps left", otters.finish(), 0);
        CHECKS.same("stepsMade()", otters.stepsMade(), 8);
        otters.undo();
        CHECKS.same("that finish was an action", otters.stepsLeft(), 0);
        otters.undo();
        CHECKS.same("finish is one action", otters.stepsLeft(), 5);
        CHECKS.same("undo takes the steps made back", otters.stepsMade(), 3);
    }
}
