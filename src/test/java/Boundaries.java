import java.util.ArrayList;
import java.util.List;

/** Boundary cases: each is a test of its own, on a new object, of a sentence of the document. */
abstract class Boundaries {
    static final Class<IndexOutOfBoundsException> INDEX = IndexOutOfBoundsException.class;
    static final Class<IllegalArgumentException> ARGUMENT = IllegalArgumentException.class;
    static final Class<IllegalStateException> STATE = IllegalStateException.class;
    static final int NONE = BoothOtters.NONE;
    static final int PAIRS = BoothOtters.PAIRS;
    static final int TRIPLES = BoothOtters.TRIPLES;
    static final int SPARSE = BoothOtters.SPARSE;
    static final String NO_REGISTER = "Throws `IndexOutOfBoundsException` if there is no such register";
    static final String NO_RECODING = "Throws `IllegalArgumentException` if there is no such recoding";
    static final String ODD_WIDTH = "Throws `IllegalStateException` if recoding is TRIPLES, and the width is odd";

    /** What a case does with a new object. */
    interface Play {
        void on(BoothOtters otters);
    }

    /** A call that is given one number. */
    interface NumberCall {
        long answer(BoothOtters otters, int number);
    }

    /** Where the document names the boundary, what the case is, and its play. */
    record Case(String section, String sentence, String name, Play play) {
        String whole() {
            return section + ", \"" + sentence + "\": " + name;
        }
    }

    private final List<Case> cases = new ArrayList<>();
    private String section;
    private String sentence;

    abstract void addAll();

    final List<Case> cases() {
        return cases;
    }

    /** The cases added from here on belong to this sentence. */
    final void of(String newSection, String newSentence) {
        section = newSection;
        sentence = newSentence;
    }

    final void of(int promise, String newSentence) {
        of("Promise " + promise, newSentence);
    }

    final void when(String name, Play play) {
        cases.add(new Case(section, sentence, name, play));
    }

    /** The first and the last register are there; those beside them, and the farthest, are not. */
    final void registers(int promise, String range, String which, NumberCall call) {
        registers(promise, range, which, o -> { }, call);
    }

    final void registers(int promise, String range, String which, Play before, NumberCall call) {
        of(promise, range);
        int[] outermost = {0, 5};
        for (int register : outermost) {
            when(which + " " + register, o -> {
                before.on(o);
                call.answer(o, register);
            });
        }
        of(promise, NO_REGISTER);
        int[] none = {-1, 6, Integer.MIN_VALUE, Integer.MAX_VALUE};
        for (int register : none) {
            when(which + " " + register, o -> {
                before.on(o);
                refuses(o, INDEX, () -> call.answer(o, register));
            });
        }
    }

    /** Numbers beside the recodings, and the farthest, are none. */
    final void noRecodings(NumberCall call) {
        int[] none = {-1, 3, Integer.MIN_VALUE, Integer.MAX_VALUE};
        for (int recoding : none) {
            when("recoding " + recoding, o -> refuses(o, ARGUMENT, () -> call.answer(o, recoding)));
        }
    }

    static int least(int width) {
        return -(1 << (width - 1));
    }

    static int greatest(int width) {
        return (1 << (width - 1)) - 1;
    }

    /** Sets the width, and A and B. */
    static void setUp(BoothOtters otters, int width, int a, int b) {
        otters.setWidth(width);
        otters.set(0, a);
        otters.set(1, b);
    }

    /** Sets the width, and begins to multiply A by B. */
    static int begin(BoothOtters otters, int width, int a, int b, int recoding) {
        setUp(otters, width, a, b);
        return otters.begin(0, 1, recoding);
    }

    static void steps(BoothOtters otters, int count) {
        for (int made = 0; made < count; made++) {
            otters.step();
        }
    }

    static int carryOut(BoothOtters otters, String program) {
        otters.clearProgram();
        Checks.type(otters, program);
        return otters.carryOut();
    }

    static void same(long got, long due) {
        if (got != due) {
            throw new AssertionError("answered " + got + ", due is " + due);
        }
    }

    static void holds(boolean holds) {
        if (!holds) {
            throw new AssertionError("does not hold");
        }
    }

    /** The call throws just this class, and nothing that shows has changed. */
    static void refuses(BoothOtters otters, Class<? extends RuntimeException> due, Checks.Call call) {
        String wrongly = Checks.wronglyRefused(otters, due, call);
        if (!wrongly.isEmpty()) {
            throw new AssertionError(wrongly);
        }
    }
}
