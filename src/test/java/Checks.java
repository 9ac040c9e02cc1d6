import java.util.ArrayList;
import java.util.List;

/** Counts and prints the answers that are not the ones that are due. */
final class Checks {
    /** A call of the face; a boolean counts 1 or 0. */
    interface Call {
        long answer();
    }

    private int wrong;
    private int made;

    void same(String what, long got, long due) {
        made++;
        if (got != due) {
            report(what + " answered " + got + ", due is " + due);
        }
    }

    void holds(String what, boolean holds) {
        made++;
        if (!holds) {
            report(what + " does not hold");
        }
    }

    /** The call throws just this class (no class below it: those are the machine's), and changes nothing. */
    void refuses(BoothOtters otters, String what, Class<? extends RuntimeException> due, Call call) {
        made++;
        List<Long> before = allThatShows(otters);
        Class<?> thrown = thrownBy(call);
        if (thrown != due) {
            report(what + " threw " + nameOf(thrown) + ", due is " + nameOf(due));
        }
        if (!allThatShows(otters).equals(before)) {
            report(what + " threw and changed something");
        }
    }

    static Class<?> thrownBy(Call call) {
        try {
            call.answer();
            return null;
        } catch (RuntimeException e) {
            return e.getClass();
        }
    }

    static void type(BoothOtters otters, String text) {
        for (char character : text.toCharArray()) {
            otters.type(character);
        }
    }

    /** The answers of all calls that only look. */
    static List<Long> allThatShows(BoothOtters otters) {
        List<Long> shown = new ArrayList<>();
        shown.add((long) otters.width());
        for (int register = 0; register < 6; register++) {
            shown.add((long) otters.valueOf(register));
        }
        shown.add((long) otters.stepsLeft());
        if (otters.stepsLeft() != BoothOtters.NONE) {
            shown.add((long) otters.highPart());
            shown.add((long) otters.lowPart());
            shown.add((long) otters.extraBit());
        }
        shown.add((long) otters.overflows());
        shown.add((long) otters.stepsMade());
        shown.add((long) otters.recordedStates());
        shown.add((long) otters.programError());
        if (otters.programError() == BoothOtters.NONE) {
            shown.add((long) otters.firstOverflow());
        }
        return shown;
    }

    void end() {
        System.out.println(made + " checks, " + wrong + " wrong");
        if (wrong != 0) {
            System.exit(1);
        }
    }

    private void report(String text) {
        wrong++;
        if (wrong <= 50) {
            System.out.println(text);
        }
    }

    private static String nameOf(Class<?> thrown) {
        return thrown == null ? "nothing" : thrown.getSimpleName();
    }
}
