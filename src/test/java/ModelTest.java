/** Long runs of calls, each answered by the class and by the model alike. The same runs each time. */
final class ModelTest {
    private static final int RUNS = 3000;
    private static final int CALLS = 512;
    private static final int[] EDGES = {Integer.MIN_VALUE, -32769, -1, 6, 7, 60, 32768, Integer.MAX_VALUE};
    private static final String[] PROGRAMS = {
        "A=B", "C=-D", "E=F+A", "B=C-D", "D=E*F", "A=A*A", "B=#32767", "F=#-32768", "C=#0", "D=#-7", "E=#100",
        "A=#5;B=A*A;C=B*B", "F=-F;F=F+F", "C=C*D;D=C-A;A=-A", "A=B+C+D", "A=#32768", "B=#-32769", "C=#-0", "D=#07",
        "A=B;", "G=A", "E=", "F=#", "A=#-", "B=-", "C=D*"
    };
    private static final String SIGNS = "ABCDEFG=-+*#;0123456789 /:@a\u00b1\u0141\uffff";
    private static final Checks CHECKS = new Checks();

    private static long seed;

    public static void main(String[] args) {
        for (int run = 0; run < RUNS; run++) {
            seed = run;
            run(run);
        }
        CHECKS.end();
    }

    private static void run(int run) {
        BoothOtters otters = new BoothOtters();
        Model model = new Model();
        // Runs differ in how often they ask for what is not there.
        int wrongOf100 = run % 4 == 0 ? 30 : 4;
        int calls = 0;
        while (calls < CALLS) {
            if (below(12) == 0) {
                calls = typeSome(otters, model, run, calls);
            } else {
                int call = below(32);
                int a = pick(wrongOf100, 6);
                int b = second(model, call, wrongOf100);
                int c = pick(wrongOf100, 3);
                String what = "run " + run + ", call " + calls + ": number " + call
                        + " with " + a + ", " + b + ", " + c;
                compare(what, answer(() -> onClass(otters, call, a, b, c)),
                        answer(() -> onModel(model, call, a, b, c)));
                calls++;
            }
        }
    }

    private static int typeSome(BoothOtters otters, Model model, int run, int made) {
        int calls = made;
        String text = PROGRAMS[below(PROGRAMS.length)];
        if (below(3) == 0) {
            compare("run " + run + ": clearProgram", answer(() -> otters.clearProgram()),
                    answer(() -> model.clearProgram()));
            calls++;
        } else if (model.programError() == BoothOtters.NONE) {
            text = ";" + text;
        }
        for (int at = 0; at < text.length() && calls < CALLS; at++) {
            char character = below(40) == 0 ? SIGNS.charAt(below(SIGNS.length())) : text.charAt(at);
            compare("run " + run + ": type", answer(() -> otters.type(character)),
                    answer(() -> model.type(character)));
            calls++;
        }
        return calls;
    }

    private static int below(int bound) {
        seed = seed * 6364136223846793005L + 1442695040888963407L;
        return (int) Math.floorMod(seed >>> 33, (long) bound);
    }

    private static int pick(int wrongOf100, int bound) {
        return below(100) < wrongOf100 ? EDGES[below(EDGES.length)] : below(bound);
    }

    /** A width for setWidth, a value for set, a place for digitAt, else a register. */
    private static int second(Model model, int call, int wrongOf100) {
        switch (call) {
            case 0:
                return below(100) < wrongOf100 ? 3 + 14 * below(2) : 4 + below(13);
            case 1:
                return value(model, wrongOf100);
            case 17:
            case 18:
                return pick(wrongOf100, 17);
            default:
                return pick(wrongOf100, 6);
        }
    }

    private static int value(Model model, int wrongOf100) {
        int half = 1 << (model.width() - 1);
        switch (below(6)) {
            case 0:
                return -half;
            case 1:
                return half - 1;
            case 2:
                return below(100) < wrongOf100 ? half : 1;
            case 3:
                return below(100) < wrongOf100 ? -half - 1 : -1;
            default:
                return below(100) < wrongOf100 ? EDGES[below(EDGES.length)] : below(2 * half) - half;
        }
    }

    /** The answer, or the exception's class: just that class, none below it. */
    private static Object answer(Checks.Call call) {
        try {
            return call.answer();
        } catch (RuntimeException e) {
            return e.getClass();
        }
    }

    private static void compare(String what, Object got, Object due) {
        CHECKS.holds(what + ", answered " + got + ", due is " + due, got.equals(due));
    }

    private static long onClass(BoothOtters otters, int call, int a, int b, int c) {
        switch (call) {
            case 0: return otters.setWidth(b);
            case 1: return otters.set(a, b);
            case 2: case 3: return otters.begin(a, b, c);
            case 4: case 5: return otters.step();
            case 6: return otters.finish();
            case 7: return otters.store(a);
            case 8: return otters.programError();
            case 9: return otters.firstOverflow();
            case 10: return otters.carryOut();
            case 11: return otters.undo();
            case 12: return otters.takeSnapshot();
            case 13: return otters.restoreSnapshot();
            case 14: return otters.width();
            case 15: return otters.valueOf(a);
            case 16: return otters.onesOf(a);
            case 17: case 18: return otters.digitAt(a, c, b);
            case 19: return otters.rowsOf(a, c);
            case 20: return otters.productByRows(a, b, c);
            case 21: return otters.productByBits(a, b);
            case 22: return otters.fits(a, b) ? 1 : 0;
            case 23: return otters.stepsLeft();
            case 24: return otters.highPart();
            case 25: return otters.lowPart();
            case 26: return otters.extraBit();
            case 27: return otters.carries(a, b);
            case 28: return otters.longestRun(a, b);
            case 29: return otters.overflows();
            case 30: return otters.stepsMade();
            default: return otters.recordedStates();
        }
    }

    private static long onModel(Model model, int call, int a, int b, int c) {
        switch (call) {
            case 0: return model.setWidth(b);
            case 1: return model.set(a, b);
            case 2: case 3: return model.begin(a, b, c);
            case 4: case 5: return model.step();
            case 6: return model.finish();
            case 7: return model.store(a);
            case 8: return model.programError();
            case 9: return model.firstOverflow();
            case 10: return model.carryOut();
            case 11: return model.undo();
            case 12: return model.takeSnapshot();
            case 13: return model.restoreSnapshot();
            case 14: return model.width();
            case 15: return model.valueOf(a);
            case 16: return model.onesOf(a);
            case 17: case 18: return model.digitAt(a, c, b);
            case 19: return model.rowsOf(a, c);
            case 20: return model.productByRows(a, b, c);
            case 21: return model.productByBits(a, b);
            case 22: return model.fits(a, b);
            case 23: return model.stepsLeft();
            case 24: return model.highPart();
            case 25: return model.lowPart();
            case 26: return model.extraBit();
            case 27: return model.carries(a, b);
            case 28: return model.longestRun(a, b);
            case 29: return model.overflows();
            case 30: return model.stepsMade();
            default: return model.recordedStates();
        }
    }
}
