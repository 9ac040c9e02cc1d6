/** Promises 21, 22 and 23: productByRows, productByBits and fits. */
final class ProductsTest {
    private static final Checks CHECKS = new Checks();

    public static void main(String[] args) {
        for (int width = 4; width <= 8; width++) {
            allPairs(width, 1);
        }
        allPairs(15, 997);
        allPairs(16, 997);
        edges();
        CHECKS.end();
    }

    private static void allPairs(int width, int apart) {
        int half = 1 << (width - 1);
        for (int a = -half; a < half; a += apart) {
            for (int b = -half; b < half; b += apart) {
                products(Checks.made(width, a, b), width, a, b);
            }
        }
    }

    private static void products(BoothOtters otters, int width, int a, int b) {
        String both = a + " * " + b + " at width " + width;
        long due = (long) a * b;
        CHECKS.same("productByBits " + both, otters.productByBits(0, 1), due);
        CHECKS.same("PAIRS " + both, otters.productByRows(0, 1, BoothOtters.PAIRS), due);
        CHECKS.same("SPARSE " + both, otters.productByRows(0, 1, BoothOtters.SPARSE), due);
        if (width % 2 == 0) {
            CHECKS.same("TRIPLES " + both, otters.productByRows(0, 1, BoothOtters.TRIPLES), due);
        }
        long half = 1L << (width - 1);
        CHECKS.same("fits " + both, otters.fits(0, 1) ? 1 : 0, due >= -half && due < half ? 1 : 0);
    }

    private static void edges() {
        BoothOtters otters = new BoothOtters();
        otters.setWidth(16);
        otters.set(0, -32768);
        otters.set(1, -32768);
        products(otters, 16, -32768, -32768);
        otters.set(1, 32767);
        products(otters, 16, -32768, 32767);
        otters.set(0, 32767);
        products(otters, 16, 32767, 32767);
        otters.setWidth(8);
        otters.set(0, 16);
        otters.set(1, -8);
        otters.set(2, 8);
        CHECKS.holds("16 * -8 fits in 8 bits", otters.fits(0, 1));
        CHECKS.holds("16 * 8 does not fit in 8 bits", !otters.fits(0, 2));
        CHECKS.same("a register times itself", otters.productByRows(1, 1, BoothOtters.TRIPLES), 64);
        int recorded = otters.recordedStates();
        otters.productByBits(0, 1);
        CHECKS.same("products are no actions", otters.recordedStates(), recorded);
        CHECKS.same("products make no steps", otters.stepsMade(), 0);
        CHECKS.same("products count no overflows", otters.overflows(), 0);
    }
}
