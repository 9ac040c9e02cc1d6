/** Promises 19 and 20: digitAt and rowsOf. */
final class DigitsTest {
    private static final Checks CHECKS = new Checks();

    public static void main(String[] args) {
        writtenOut();
        for (int width = 4; width <= 16; width++) {
            allValues(width);
        }
        CHECKS.end();
    }

    /** Digits worked out by hand, from place 0 on. */
    private static void writtenOut() {
        BoothOtters otters = new BoothOtters();
        digits(otters, -6, BoothOtters.PAIRS, 0, -1, 1, -1, 0, 0, 0, 0);
        digits(otters, -6, BoothOtters.TRIPLES, -2, -1, 0, 0);
        digits(otters, -6, BoothOtters.SPARSE, 0, 1, 0, -1, 0, 0, 0, 0);
        digits(otters, 127, BoothOtters.PAIRS, -1, 0, 0, 0, 0, 0, 0, 1);
        digits(otters, 127, BoothOtters.TRIPLES, -1, 0, 0, 2);
        digits(otters, 127, BoothOtters.SPARSE, -1, 0, 0, 0, 0, 0, 0, 1);
        digits(otters, -128, BoothOtters.PAIRS, 0, 0, 0, 0, 0, 0, 0, -1);
        digits(otters, -128, BoothOtters.TRIPLES, 0, 0, 0, -2);
        digits(otters, -128, BoothOtters.SPARSE, 0, 0, 0, 0, 0, 0, 0, -1);
        digits(otters, 85, BoothOtters.PAIRS, -1, 1, -1, 1, -1, 1, -1, 1);
        digits(otters, 85, BoothOtters.TRIPLES, 1, 1, 1, 1);
        digits(otters, 85, BoothOtters.SPARSE, 1, 0, 1, 0, 1, 0, 1, 0);
        digits(otters, 11, BoothOtters.SPARSE, -1, 0, -1, 0, 1, 0, 0, 0);
        digits(otters, 0, BoothOtters.SPARSE, 0, 0, 0, 0, 0, 0, 0, 0);
    }

    private static void digits(BoothOtters otters, int value, int recoding, int... due) {
        otters.set(3, value);
        int rows = 0;
        for (int place = 0; place < due.length; place++) {
            CHECKS.same("digitAt of " + value + ", recoding " + recoding + ", place " + place,
                    otters.digitAt(3, recoding, place), due[place]);
            rows += due[place] == 0 ? 0 : 1;
        }
        CHECKS.same("rowsOf " + value + ", recoding " + recoding, otters.rowsOf(3, recoding), rows);
    }

    /** The digits of every value are of their kind and tell the value. */
    private static void allValues(int width) {
        int half = 1 << (width - 1);
        for (int value = -half; value < half; value++) {
            BoothOtters otters = Checks.made(width, 0, value);
            pairs(otters, width, value);
            sparse(otters, width, value);
            if (width % 2 == 0) {
                triples(otters, width, value);
            }
        }
    }

    private static void pairs(BoothOtters otters, int width, int value) {
        long sum = 0;
        int rows = 0;
        for (int place = 0; place < width; place++) {
            int digit = otters.digitAt(1, BoothOtters.PAIRS, place);
            int below = place == 0 ? 0 : bit(value, place - 1);
            CHECKS.same("PAIRS of " + value + " at " + place, digit, below - bit(value, place));
            sum += digit * (1L << place);
            rows += digit == 0 ? 0 : 1;
        }
        CHECKS.same("the sum of PAIRS of " + value, sum, value);
        CHECKS.same("rowsOf by PAIRS of " + value, otters.rowsOf(1, BoothOtters.PAIRS), rows);
    }

    private static void triples(BoothOtters otters, int width, int value) {
        long sum = 0;
        int rows = 0;
        for (int place = 0; place < width / 2; place++) {
            int digit = otters.digitAt(1, BoothOtters.TRIPLES, place);
            int below = place == 0 ? 0 : bit(value, 2 * place - 1);
            CHECKS.same("TRIPLES of " + value + " at " + place, digit,
                    below + bit(value, 2 * place) - 2 * bit(value, 2 * place + 1));
            sum += digit * (1L << (2 * place));
            rows += digit == 0 ? 0 : 1;
        }
        CHECKS.same("the sum of TRIPLES of " + value, sum, value);
        CHECKS.same("rowsOf by TRIPLES of " + value, otters.rowsOf(1, BoothOtters.TRIPLES), rows);
    }

    private static void sparse(BoothOtters otters, int width, int value) {
        long sum = 0;
        int rows = 0;
        int before = 0;
        for (int place = 0; place < width; place++) {
            int digit = otters.digitAt(1, BoothOtters.SPARSE, place);
            CHECKS.holds("a SPARSE digit of " + value + " is from -1 to 1", digit >= -1 && digit <= 1);
            CHECKS.holds("SPARSE digits of " + value + " stand alone", digit == 0 || before == 0);
            sum += digit * (1L << place);
            rows += digit == 0 ? 0 : 1;
            before = digit;
        }
        CHECKS.same("the sum of SPARSE of " + value, sum, value);
        CHECKS.same("rowsOf by SPARSE of " + value, otters.rowsOf(1, BoothOtters.SPARSE), rows);
    }

    private static int bit(int value, int place) {
        return Math.floorMod(Math.floorDiv(value, 1 << place), 2);
    }
}
