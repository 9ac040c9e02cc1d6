/** Promises 28 and 29: carries and longestRun. */
final class CarriesTest {
    private static final Checks CHECKS = new Checks();

    public static void main(String[] args) {
        writtenOut();
        for (int width = 4; width <= 7; width++) {
            allPairs(width, 1);
        }
        allPairs(16, 1009);
        CHECKS.end();
    }

    private static void writtenOut() {
        BoothOtters otters = new BoothOtters();
        adding(otters, 0, 0, 0, 0);
        adding(otters, 7, -6, 7, 7);
        adding(otters, -1, -1, 8, 8);
        adding(otters, -1, 1, 8, 8);
        adding(otters, -128, -128, 1, 1);
        adding(otters, 127, 1, 7, 7);
        adding(otters, 85, 85, 4, 1);
        adding(otters, 0x33, 0x13, 4, 2);
        adding(otters, 0x73, 0x11, 5, 3);
        otters.set(0, -1);
        CHECKS.same("a register with itself", otters.carries(0, 0), 8);
        CHECKS.same("adding is no overflow", otters.overflows(), 0);
    }

    private static void adding(BoothOtters otters, int a, int b, int carries, int longest) {
        otters.set(0, a);
        otters.set(1, b);
        CHECKS.same("carries of " + a + " and " + b, otters.carries(0, 1), carries);
        CHECKS.same("longestRun of " + a + " and " + b, otters.longestRun(0, 1), longest);
    }

    private static void allPairs(int width, int apart) {
        int half = 1 << (width - 1);
        for (int a = -half; a < half; a += apart) {
            for (int b = -half; b < half; b += apart) {
                byHand(Checks.made(width, a, b), width, a, b);
            }
        }
    }

    private static void byHand(BoothOtters otters, int width, int a, int b) {
        int carry = 0;
        int carries = 0;
        int run = 0;
        int longest = 0;
        for (int place = 0; place < width; place++) {
            int column = (a >> place & 1) + (b >> place & 1) + carry;
            carry = column >= 2 ? 1 : 0;
            carries += carry;
            run = carry == 1 ? run + 1 : 0;
            longest = Math.max(longest, run);
        }
        CHECKS.same("carries of " + a + " and " + b, otters.carries(0, 1), carries);
        CHECKS.same("longestRun of " + a + " and " + b, otters.longestRun(0, 1), longest);
    }
}
