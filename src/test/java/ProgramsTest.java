/** Promises 8 to 12 and 30: type, clearProgram, programError, firstOverflow, carryOut and overflows. */
final class ProgramsTest {
    private static final Class<IllegalStateException> STATE = IllegalStateException.class;
    private static final Checks CHECKS = new Checks();

    public static void main(String[] args) {
        typing();
        errors();
        results();
        overflowing();
        carryingOut();
        CHECKS.end();
    }

    private static void typing() {
        BoothOtters otters = new BoothOtters();
        for (int length = 1; length <= 60; length++) {
            CHECKS.same("type()", otters.type("A=B;".charAt((length - 1) % 4)), length);
        }
        CHECKS.refuses(otters, "a 61st character", STATE, () -> otters.type('A'));
        CHECKS.same("the program ends too early", otters.programError(), 60);
        CHECKS.same("typing is no action", otters.recordedStates(), 0);
        CHECKS.same("clearProgram()", otters.clearProgram(), 60);
        CHECKS.same("clearProgram() again", otters.clearProgram(), 0);
        CHECKS.same("clearing is no action", otters.recordedStates(), 0);
        CHECKS.same("type() after clearing", otters.type('C'), 1);
    }

    private static void error(String program, int due) {
        BoothOtters otters = new BoothOtters();
        Checks.type(otters, program);
        CHECKS.same("programError of " + program, otters.programError(), due);
        if (due != BoothOtters.NONE) {
            CHECKS.refuses(otters, "firstOverflow of " + program, STATE, () -> otters.firstOverflow());
            CHECKS.refuses(otters, "carryOut of " + program, STATE, () -> otters.carryOut());
        }
    }

    private static void errors() {
        error("", 0);
        error("A=B*C;D=-E;F=#-32768;A=#32767;B=#0", BoothOtters.NONE);
        error("A=B;C=D+", 8);
        error("A=B;C=D/E", 7);
        error("A=B;G=A", 4);
        error("a=B", 0);
        error("A=-#1", 3);
        error("A=-B+C", 4);
        error("A=B+C+D", 5);
        error("A=B+#1", 4);
        error("A=#32768", 7);
        error("A=#-32769", 8);
        error("A=#00", 4);
        error("A=#-0", 4);
        error("A=#1+B", 4);
    }

    private static void result(int b, int c, String program, int due) {
        BoothOtters otters = new BoothOtters();
        otters.set(1, b);
        otters.set(2, c);
        Checks.type(otters, program);
        CHECKS.same("carryOut of " + program, otters.carryOut(), due);
        CHECKS.same("A after " + program, otters.valueOf(0), due);
        CHECKS.same("B after " + program, otters.valueOf(1), b);
        CHECKS.same("C after " + program, otters.valueOf(2), c);
    }

    private static void results() {
        result(11, -4, "A=B", 11);
        result(11, -4, "A=-B", -11);
        result(11, -4, "A=B+C", 7);
        result(11, -4, "A=B-C", 15);
        result(11, -4, "A=C-B", -15);
        result(11, -4, "A=B*C", -44);
        result(11, -4, "A=#0", 0);
        result(11, -4, "A=#-128", -128);
        result(11, -4, "A=#127", 127);
        result(11, -4, "A=#9;A=A*A", 81);
        result(11, -4, "A=#1;A=A+A;A=A+A;A=A+A", 8);
        // Nothing of a step goes on into the next one.
        result(11, -4, "D=B+C;A=C", -4);
        result(11, -4, "D=B*C;A=-C", 4);
        result(11, -4, "D=#-9;A=#8", 8);
        result(11, -4, "D=#-9;A=B", 11);
        result(11, -4, "D=-B;E=B-C;A=#12", 12);
        result(-128, 127, "A=-B", -128);
        result(-128, 127, "A=B-C", 1);
        result(-128, 127, "A=C+C", -2);
        result(-128, 127, "A=B*B", 0);
        result(-128, 127, "A=B*C", -128);
        result(0, 0, "A=#200", -56);
        result(0, 0, "A=#32767", -1);
        result(0, 0, "A=#-32768", 0);
    }

    private static void overflow(int b, int c, String program, int first, int count) {
        BoothOtters otters = new BoothOtters();
        otters.set(1, b);
        otters.set(2, c);
        Checks.type(otters, program);
        CHECKS.same("firstOverflow of " + program, otters.firstOverflow(), first);
        CHECKS.same("it only asks", otters.overflows(), 0);
        CHECKS.same("it changes no register", otters.valueOf(0), 0);
        CHECKS.same("it is no action", otters.recordedStates(), 2);
        otters.carryOut();
        CHECKS.same("overflows after " + program, otters.overflows(), count);
    }

    private static void overflowing() {
        overflow(100, 28, "A=B", BoothOtters.NONE, 0);
        overflow(100, 27, "A=B+C", BoothOtters.NONE, 0);
        overflow(100, 28, "A=B+C", 0, 1);
        overflow(-100, 28, "A=B-C", BoothOtters.NONE, 0);
        overflow(-100, 29, "A=B-C", 0, 1);
        overflow(-128, 0, "A=-B", 0, 1);
        overflow(-127, 0, "A=-B", BoothOtters.NONE, 0);
        overflow(16, 8, "A=B*C", 0, 1);
        overflow(16, -8, "A=B*C", BoothOtters.NONE, 0);
        overflow(100, 28, "A=#100;D=B", BoothOtters.NONE, 0);
        overflow(100, 28, "A=#-100;D=-B", BoothOtters.NONE, 0);
        overflow(0, 0, "A=#127;A=#-128", BoothOtters.NONE, 0);
        overflow(0, 0, "A=#127;A=#128", 1, 1);
        overflow(0, 0, "A=#-129;A=#0", 0, 1);
        overflow(100, 0, "A=B+B;A=B+B;A=#1;A=B*B", 0, 3);
        overflow(100, 0, "B=#63;A=B+B", BoothOtters.NONE, 0);
        overflow(10, 0, "B=#100;C=B;D=B+C;E=D+D", 2, 1);
        BoothOtters otters = new BoothOtters();
        otters.setWidth(16);
        Checks.type(otters, "A=#-32768;B=#32767;C=A*A;D=-A;E=A*B");
        CHECKS.same("firstOverflow at width 16", otters.firstOverflow(), 2);
        otters.carryOut();
        CHECKS.same("overflows at width 16", otters.overflows(), 3);
        otters.setWidth(4);
        CHECKS.same("firstOverflow at width 4", otters.firstOverflow(), 0);
    }

    private static void carryingOut() {
        BoothOtters otters = new BoothOtters();
        otters.begin(0, 0, BoothOtters.PAIRS);
        Checks.type(otters, "A=#3;B=#5;F=A*B");
        CHECKS.same("carryOut()", otters.carryOut(), 15);
        CHECKS.same("carryOut() is one action", otters.recordedStates(), 2);
        CHECKS.same("a program makes no steps of multiplications", otters.stepsMade(), 0);
        CHECKS.same("a program gives no multiplication up", otters.stepsLeft(), 8);
        CHECKS.same("the program stays", otters.programError(), BoothOtters.NONE);
        CHECKS.same("again", otters.carryOut(), 15);
        otters.undo();
        otters.undo();
        CHECKS.same("undo takes all steps back: A", otters.valueOf(0), 0);
        CHECKS.same("undo takes all steps back: F", otters.valueOf(5), 0);
        CHECKS.same("undo leaves the program", otters.clearProgram(), 15);
    }
}
