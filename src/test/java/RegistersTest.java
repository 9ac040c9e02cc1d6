/** Promises 1, 2, 3, 16, 17 and 18: a new object, setWidth, set, width, valueOf, onesOf. */
final class RegistersTest {
    private static final Checks CHECKS = new Checks();

    public static void main(String[] args) {
        newObject();
        setWidth();
        set();
        valuesAndOnes();
        CHECKS.end();
    }

    private static void newObject() {
        BoothOtters otters = new BoothOtters();
        CHECKS.same("width() of a new object", otters.width(), 8);
        for (int register = 0; register < 6; register++) {
            CHECKS.same("valueOf of a new object", otters.valueOf(register), 0);
        }
        CHECKS.same("stepsLeft() of a new object", otters.stepsLeft(), BoothOtters.NONE);
        CHECKS.same("overflows() of a new object", otters.overflows(), 0);
        CHECKS.same("stepsMade() of a new object", otters.stepsMade(), 0);
        CHECKS.same("recordedStates() of a new object", otters.recordedStates(), 0);
        CHECKS.same("programError() of a new object", otters.programError(), 0);
        CHECKS.same("clearProgram() of a new object", otters.clearProgram(), 0);
        BoothOtters other = new BoothOtters();
        other.set(0, 3);
        CHECKS.same("another object is its own", otters.valueOf(0), 0);
    }

    private static void setWidth() {
        BoothOtters otters = new BoothOtters();
        CHECKS.same("setWidth(16)", otters.setWidth(16), 8);
        otters.set(0, -32768);
        otters.set(1, 32767);
        otters.set(2, 21845);
        otters.set(3, 136);
        otters.set(4, -9);
        CHECKS.same("setWidth(16) again", otters.setWidth(16), 16);
        CHECKS.same("32767 at width 16", otters.valueOf(1), 32767);
        CHECKS.same("setWidth(8)", otters.setWidth(8), 16);
        CHECKS.same("-32768 wrapped to 8 bits", otters.valueOf(0), 0);
        CHECKS.same("32767 wrapped to 8 bits", otters.valueOf(1), -1);
        CHECKS.same("21845 wrapped to 8 bits", otters.valueOf(2), 85);
        CHECKS.same("136 wrapped to 8 bits", otters.valueOf(3), -120);
        CHECKS.same("-9 wrapped to 8 bits", otters.valueOf(4), -9);
        CHECKS.same("setWidth(4)", otters.setWidth(4), 8);
        CHECKS.same("-120 wrapped to 4 bits", otters.valueOf(3), -8);
        CHECKS.same("-9 wrapped to 4 bits", otters.valueOf(4), 7);
        CHECKS.same("wrapping by setWidth is no overflow", otters.overflows(), 0);
        CHECKS.same("setWidth(15)", otters.setWidth(15), 4);
        CHECKS.same("a value goes along into a wider register", otters.valueOf(3), -8);
        CHECKS.same("setWidth is an action", otters.recordedStates(), 4);
    }

    private static void set() {
        BoothOtters otters = new BoothOtters();
        CHECKS.same("set of a new register", otters.set(4, 127), 0);
        CHECKS.same("set once more", otters.set(4, -128), 127);
        CHECKS.same("set to the same", otters.set(4, -128), -128);
        CHECKS.same("set of another register", otters.set(3, 1), 0);
        CHECKS.same("set is an action", otters.recordedStates(), 4);
        CHECKS.refuses(otters, "set(4, 128)", IllegalArgumentException.class, () -> otters.set(4, 128));
        CHECKS.refuses(otters, "set(4, -129)", IllegalArgumentException.class, () -> otters.set(4, -129));
        CHECKS.refuses(otters, "set(6, 0)", IndexOutOfBoundsException.class, () -> otters.set(6, 0));
        CHECKS.refuses(otters, "set(-1, 128)", IndexOutOfBoundsException.class, () -> otters.set(-1, 128));
        CHECKS.same("set is no overflow", otters.overflows(), 0);
        otters.setWidth(9);
        CHECKS.same("set at another width", otters.set(4, 255), -128);
    }

    private static void valuesAndOnes() {
        BoothOtters otters = new BoothOtters();
        for (int register = 0; register < 6; register++) {
            otters.set(register, 10 * register - 25);
        }
        for (int register = 0; register < 6; register++) {
            CHECKS.same("valueOf(" + register + ")", otters.valueOf(register), 10 * register - 25);
        }
        ones(otters, 0, 0);
        ones(otters, 7, 3);
        ones(otters, -1, 8);
        ones(otters, -128, 1);
        ones(otters, -6, 6);
        otters.setWidth(16);
        ones(otters, -1, 16);
        ones(otters, -32768, 1);
        ones(otters, 32767, 15);
    }

    private static void ones(BoothOtters otters, int value, int due) {
        otters.set(2, value);
        int recorded = otters.recordedStates();
        CHECKS.same("onesOf " + value, otters.onesOf(2), due);
        CHECKS.same("looking is no action", otters.recordedStates(), recorded);
    }
}
