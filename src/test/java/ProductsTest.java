/** Promises 21, 22 and 23: productByRows, productByBits and fits. */
final class ProductsTest {
    private static final Class<IndexOutOfBoundsException> INDEX = IndexOutOfBoundsException.class;
    private static final Class<IllegalArgumentException> ARGUMENT = IllegalArgumentException.class;
    private static final Class<IllegalStateException> STATE = IllegalStateException.class;
    private static final Checks CHECKS = new Checks();

    public static void main(String[] args) {
        for (int width = 4; width <= 8; width++) {
            allPairs(width, 1);
        }
        allPairs(15, 997);
        allPairs(16, 997);
        edges();
        wrongInputs();
        CHECKS.end();
    }

    private static void allPairs(int width, int apart) {
        BoothOtters otters = new BoothOtters();
        otters.setWidth(width);
        int half = 1 << (width - 1);
        for (int a = -half; a < half; a += apart) {
            otters.set(4, a);
            for (int b = -half; b < half; b += apart) {
                otters.set(5, b);
                products(otters, width, a, b);
            }
        }
    }

    private static void products(BoothOtters otters, int width, int a, int b) {
        String both = a + " * " + b + " at width " + width;
        long due = (long) a * b;
        CHECKS.same("productByBits " + both, otters.productByBits(4, 5), due);
        CHECKS.same("PAIRS " + both, otters.productByRows(4, 5, BoothOtters.PAIRS), due);
        CHECKS.same("SPARSE " + both, otters.productByRows(4, 5, BoothOtters.SPARSE), due);
        if (width % 2 == 0) {
            CHECKS.same("TRIPLES " + both, otters.productByRows(4, 5, BoothOtters.TRIPLES), due);
        }
        long half = 1L << (width - 1);
        CHECKS.same("fits " + both, otters.fits(4, 5) ? 1 : 0, due >= -half && due < half ? 1 : 0);
    }

    private static void edges() {
        BoothOtters otters = new BoothOtters();
        otters.setWidth(16);
        otters.set(4, -32768);
        otters.set(5, -32768);
        products(otters, 16, -32768, -32768);
        otters.set(5, 32767);
        products(otters, 16, -32768, 32767);
        otters.set(4, 32767);
        products(otters, 16, 32767, 32767);
        otters.setWidth(8);
        otters.set(0, 16);
        otters.set(1, -8);
        otters.set(2, 8);
        CHECKS.holds("16 * -8 fits in 8 bits", otters.fits(0, 1));
        CHECKS.holds("16 * 8 does not fit in 8 bits", !otters.fits(0, 2));
        CHECKS.same("a register times itself", otters.productByRows(1, 1, BoothOtters.TRIPLES), 64);
        int recorded = otters.recordedStates();
        otters.productByBits(0, 1);
        CHECKS.same("products are no actions", otters.recordedStates(), recorded);
        CHECKS.same("products make no steps", otters.stepsMade(), 0);
        CHECKS.same("products count no overflows", otters.overflows(), 0);
    }

    private static void wrongInputs() {
        BoothOtters otters = new BoothOtters();
        int[] noRegisters = {-1, 6, Integer.MIN_VALUE, Integer.MAX_VALUE};
        int[] noRecodings = {-1, 3, Integer.MIN_VALUE, Integer.MAX_VALUE};
        for (int width = 7; width <= 8; width++) {
            otters.setWidth(width);
            for (int register : noRegisters) {
                refuseRows(otters, INDEX, register, 0, BoothOtters.TRIPLES);
                refuseRows(otters, INDEX, 0, register, BoothOtters.TRIPLES);
                refuseRows(otters, INDEX, 0, register, 3);
                CHECKS.refuses(otters, "productByBits", INDEX, () -> otters.productByBits(register, 0));
                CHECKS.refuses(otters, "productByBits", INDEX, () -> otters.productByBits(0, register));
                CHECKS.refuses(otters, "fits", INDEX, () -> otters.fits(register, 0) ? 1 : 0);
                CHECKS.refuses(otters, "fits", INDEX, () -> otters.fits(0, register) ? 1 : 0);
            }
            for (int recoding : noRecodings) {
                refuseRows(otters, ARGUMENT, 0, 0, recoding);
            }
        }
        for (int width = 5; width < 16; width += 2) {
            otters.setWidth(width);
            refuseRows(otters, STATE, 0, 1, BoothOtters.TRIPLES);
        }
    }

    private static void refuseRows(BoothOtters otters, Class<? extends RuntimeException> due,
            int multiplicand, int multiplier, int recoding) {
        CHECKS.refuses(otters, "productByRows(" + multiplicand + ", " + multiplier + ", " + recoding + ")", due,
                () -> otters.productByRows(multiplicand, multiplier, recoding));
    }
}
