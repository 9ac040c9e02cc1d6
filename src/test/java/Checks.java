import java.util.ArrayList;
import java.util.List;

/** Counts and prints the answers that are not the ones that are due. */
final class Checks {
    /** A call of the face; a boolean counts 1 or 0. */
    interface Call {
        long answer();
    }

    private int wrong;
    private int made;

    void same(String what, long got, long due) {
        made++;
        if (got != due) {
            report(what + " answered " + got + ", due is " + due);
        }
    }

    void holds(String what, boolean holds) {
        made++;
        if (!holds) {
            report(what + " does not hold");
        }
    }

    /** The case ends without throwing, not even what the machine throws. */
    void passes(String what, Runnable play) {
        made++;
        try {
            play.run();
        } catch (AssertionError | RuntimeException e) {
            report(what + ": " + (e instanceof AssertionError ? e.getMessage() : e.toString()));
        }
    }

    void refuses(BoothOtters otters, String what, Class<? extends RuntimeException> due, Call call) {
        made++;
        String wrongly = wronglyRefused(otters, due, call);
        if (!wrongly.isEmpty()) {
            report(what + " " + wrongly);
        }
    }

    /** Empty if the call throws just this class (no class below it: those are the machine's), and changes nothing. */
    static String wronglyRefused(BoothOtters otters, Class<? extends RuntimeException> due, Call call) {
        List<Long> before = allThatShows(otters);
        Class<?> thrown = thrownBy(call);
        if (thrown != due) {
            return "threw " + (thrown == null ? "nothing" : thrown.getSimpleName()) + ", due is " + due.getSimpleName();
        }
        return allThatShows(otters).equals(before) ? "" : "threw and changed something";
    }

    static Class<?> thrownBy(Call call) {
        try {
            call.answer();
            return null;
        } catch (RuntimeException e) {
            return e.getClass();
        }
    }

    /** A new object, for it is promised for 512 calls alone, with this width and with A and B set. */
    static BoothOtters made(int width, int a, int b) {
        BoothOtters otters = new BoothOtters();
        otters.setWidth(width);
        otters.set(0, a);
        otters.set(1, b);
        return otters;
    }

    static void type(BoothOtters otters, String text) {
        for (char character : text.toCharArray()) {
            otters.type(character);
        }
    }

    /** The answers of all calls that only look. */
    static List<Long> allThatShows(BoothOtters otters) {
        List<Long> shown = new ArrayList<>();
        shown.add((long) otters.width());
        for (int register = 0; register < 6; register++) {
            shown.add((long) otters.valueOf(register));
        }
        shown.add((long) otters.stepsLeft());
        if (otters.stepsLeft() != BoothOtters.NONE) {
            shown.add((long) otters.highPart());
            shown.add((long) otters.lowPart());
            shown.add((long) otters.extraBit());
        }
        shown.add((long) otters.overflows());
        shown.add((long) otters.stepsMade());
        shown.add((long) otters.recordedStates());
        shown.add((long) otters.programError());
        if (otters.programError() == BoothOtters.NONE) {
            shown.add((long) otters.firstOverflow());
        }
        return shown;
    }

    void end() {
        System.out.println(made + " checks, " + wrong + " wrong");
        if (wrong != 0) {
            System.exit(1);
        }
    }

    private void report(String text) {
        wrong++;
        if (wrong <= 50) {
            System.out.println(text);
        }
    }
}
