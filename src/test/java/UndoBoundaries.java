import java.util.ArrayList;
import java.util.List;

/** Boundary cases of the recorded states and the snapshot (promises 13, 14, 15 and 32), and of refused calls. */
final class UndoBoundaries extends Boundaries {
    @Override
    void addAll() {
        actions();
        noActions();
        latestFour();
        whatComesBack();
        whatStays();
        undoing();
        takingSnapshots();
        restoring();
        whenSeveralApply();
        refusalsOfRegisters();
        refusalsOfNumbers();
        refusalsOfStates();
    }

    private void actions() {
        of("Terms", "Each successful call of a method that is described as an action first records the current state;");
        action("setWidth", o -> o.setWidth(16));
        action("setWidth to the width that is there", o -> o.setWidth(8));
        action("set", o -> o.set(5, -128));
        action("set to the value that is there", o -> o.set(5, o.valueOf(5)));
        action("begin", o -> o.begin(1, 0, TRIPLES));
        action("step", o -> o.step());
        action("finish", o -> o.finish());
        action("restoreSnapshot", o -> o.restoreSnapshot());
        action("carryOut", o -> o.carryOut());
        when("the last step records one state, and undo takes it back", o -> {
            busy(o);
            steps(o, 6);
            makeRoom(o);
            takenBack(o, p -> p.step());
            same(o.stepsLeft(), 1);
        });
        when("finish with no steps left records one state, and undo takes it back", o -> {
            busy(o);
            o.finish();
            makeRoom(o);
            takenBack(o, p -> p.finish());
            same(o.stepsLeft(), 0);
        });
        when("store records one state, and undo takes it back", o -> {
            busy(o);
            o.finish();
            makeRoom(o);
            takenBack(o, p -> p.store(0));
        });
        when("an action that is refused records none", o -> {
            refuses(o, ARGUMENT, () -> o.set(0, 128));
            same(o.recordedStates(), 0);
        });
    }

    private void action(String what, Play call) {
        when(what + " records one state, and undo takes it back", o -> {
            busy(o);
            takenBack(o, call);
        });
    }

    /** A snapshot, an overflow, a valid program, a multiplication with 7 steps left; 3 recorded states. */
    private static void busy(BoothOtters otters) {
        carryOut(otters, "A=#11;B=#-77;F=#300");
        otters.takeSnapshot();
        otters.begin(0, 1, PAIRS);
        otters.step();
        otters.clearProgram();
        Checks.type(otters, "B=#-78;E=#300");
    }

    /** The same state, with room for one recorded state more. */
    private static void makeRoom(BoothOtters otters) {
        otters.takeSnapshot();
        otters.undo();
        otters.undo();
        otters.restoreSnapshot();
        same(otters.recordedStates(), 3);
    }

    private static void takenBack(BoothOtters otters, Play call) {
        List<Long> before = Checks.allThatShows(otters);
        int recorded = otters.recordedStates();
        call.on(otters);
        same(otters.recordedStates(), recorded + 1);
        same(otters.undo(), recorded);
        holds(Checks.allThatShows(otters).equals(before));
    }

    private void noActions() {
        of(32, "Returns the number of recorded states.");
        when("none at first", o -> same(o.recordedStates(), 0));
        noAction("type", o -> o.type(';'));
        noAction("clearProgram", o -> o.clearProgram());
        noAction("programError", o -> o.programError());
        noAction("firstOverflow", o -> o.firstOverflow());
        noAction("takeSnapshot", o -> o.takeSnapshot());
        noAction("each call that looks", o -> {
            o.width();
            o.valueOf(0);
            o.onesOf(0);
            o.digitAt(0, SPARSE, 0);
            o.rowsOf(0, SPARSE);
            o.productByRows(0, 1, SPARSE);
            o.productByBits(0, 1);
            o.fits(0, 1);
            o.stepsLeft();
            o.highPart();
            o.lowPart();
            o.extraBit();
            o.carries(0, 1);
            o.longestRun(0, 1);
            o.overflows();
            o.stepsMade();
            o.recordedStates();
        });
        when("undo makes them one less", o -> {
            o.set(0, 1);
            o.set(0, 2);
            o.undo();
            same(o.recordedStates(), 1);
        });
    }

    private void noAction(String what, Play call) {
        when(what + " records none", o -> {
            busy(o);
            int recorded = o.recordedStates();
            call.on(o);
            same(o.recordedStates(), recorded);
        });
    }

    private void latestFour() {
        of("Terms", "only the latest 4 recorded states are kept.");
        for (int count = 0; count <= 10; count++) {
            int actions = count;
            when(actions + " actions", o -> {
                setMany(o, actions);
                same(o.recordedStates(), Math.min(actions, 4));
            });
        }
        when("the fifth drives the oldest out", o -> {
            setMany(o, 5);
            for (int left = 3; left >= 0; left--) {
                same(o.undo(), left);
                same(o.valueOf(0), left + 1);
            }
            refuses(o, STATE, () -> o.undo());
        });
        when("after undos there is room again", o -> {
            setMany(o, 6);
            o.undo();
            o.undo();
            o.set(0, 100);
            same(o.recordedStates(), 3);
            o.set(0, 101);
            o.set(0, 102);
            same(o.recordedStates(), 4);
            int[] due = {101, 100, 4, 3};
            for (int value : due) {
                o.undo();
                same(o.valueOf(0), value);
            }
            refuses(o, STATE, () -> o.undo());
        });
    }

    /** The first register becomes 1, 2, and so on. */
    private static void setMany(BoothOtters otters, int count) {
        for (int value = 1; value <= count; value++) {
            otters.set(0, value);
        }
    }

    private void whatComesBack() {
        of("Terms", "The state consists of everything except the program, the recorded states and the snapshot.");
        comesBack("the width", o -> o.setWidth(5));
        comesBack("the values", o -> carryOut(o, "A=#1;B=#2;C=#3;D=#4;E=#5;F=#6"));
        comesBack("the number of overflows", o -> carryOut(o, "A=#300;B=#300"));
        comesBack("the steps made", o -> o.finish());
        comesBack("the multiplication that another one gave up", o -> o.begin(1, 1, TRIPLES));
        when("a multiplication goes on by its own width, recoding and multiplicand", o -> {
            begin(o, 8, 13, -11, TRIPLES);
            o.step();
            o.takeSnapshot();
            begin(o, 12, 1, 1, PAIRS);
            o.restoreSnapshot();
            same(o.finish(), 2);
            same(o.highPart() * 256 + o.lowPart(), -143);
        });
        when("nothing multiplied comes back too", o -> {
            o.begin(0, 1, PAIRS);
            o.undo();
            same(o.stepsLeft(), NONE);
            o.takeSnapshot();
            o.begin(0, 1, PAIRS);
            o.restoreSnapshot();
            same(o.stepsLeft(), NONE);
        });
    }

    private void comesBack(String what, Play change) {
        when(what + " by undo", o -> {
            busy(o);
            List<Long> before = state(o);
            change.on(o);
            holds(!state(o).equals(before));
            o.undo();
            holds(state(o).equals(before));
        });
        when(what + " by restoreSnapshot", o -> {
            busy(o);
            List<Long> before = state(o);
            o.takeSnapshot();
            change.on(o);
            o.restoreSnapshot();
            holds(state(o).equals(before));
        });
    }

    /** What shows of the state alone. */
    private static List<Long> state(BoothOtters otters) {
        List<Long> shown = new ArrayList<>();
        shown.add((long) otters.width());
        for (int register = 0; register < 6; register++) {
            shown.add((long) otters.valueOf(register));
        }
        shown.add((long) otters.overflows());
        shown.add((long) otters.stepsMade());
        shown.add((long) otters.stepsLeft());
        if (otters.stepsLeft() != NONE) {
            shown.add((long) otters.highPart());
            shown.add((long) otters.lowPart());
            shown.add((long) otters.extraBit());
        }
        return shown;
    }

    private void whatStays() {
        of("Terms", "The state consists of everything except the program, the recorded states and the snapshot.");
        when("undo leaves the program", o -> {
            o.set(0, 1);
            Checks.type(o, "A=B");
            o.undo();
            same(o.clearProgram(), 3);
        });
        when("undo brings no cleared program back", o -> {
            Checks.type(o, "A=B");
            o.set(0, 1);
            o.clearProgram();
            o.undo();
            same(o.clearProgram(), 0);
        });
        when("restoreSnapshot leaves the program", o -> {
            o.takeSnapshot();
            Checks.type(o, "A=B");
            o.restoreSnapshot();
            same(o.clearProgram(), 3);
        });
        when("restoreSnapshot brings no recorded states back", o -> {
            setMany(o, 3);
            o.takeSnapshot();
            o.undo();
            o.undo();
            o.restoreSnapshot();
            same(o.recordedStates(), 2);
        });
        when("undo leaves a snapshot that was taken later", o -> {
            o.set(0, 1);
            o.takeSnapshot();
            o.undo();
            same(o.valueOf(0), 0);
            o.restoreSnapshot();
            same(o.valueOf(0), 1);
        });
        when("undo brings no replaced snapshot back", o -> {
            o.takeSnapshot();
            o.set(0, 1);
            o.set(0, 2);
            o.takeSnapshot();
            o.undo();
            o.undo();
            o.restoreSnapshot();
            same(o.valueOf(0), 2);
        });
    }

    private void undoing() {
        of(13, "Throws `IllegalStateException` if no state is recorded");
        when("a new object", o -> refuses(o, STATE, () -> o.undo()));
        when("after calls that are no actions", o -> {
            Checks.type(o, "A=B");
            o.takeSnapshot();
            refuses(o, STATE, () -> o.undo());
        });
        when("after as many undos as actions", o -> {
            o.set(0, 1);
            o.undo();
            refuses(o, STATE, () -> o.undo());
        });
        when("a fifth undo after many actions", o -> {
            setMany(o, 9);
            for (int undo = 0; undo < 4; undo++) {
                o.undo();
            }
            refuses(o, STATE, () -> o.undo());
            same(o.valueOf(0), 5);
        });
        when("not after an action that follows the last undo", o -> {
            o.set(0, 1);
            o.undo();
            o.set(0, 2);
            same(o.undo(), 0);
        });
        of(13, "Returns the number of recorded states that are left.");
        when("3 of the most", o -> {
            setMany(o, 4);
            same(o.undo(), 3);
        });
        when("0 of one", o -> {
            setMany(o, 1);
            same(o.undo(), 0);
        });
        of(13, "Returns to the state that was recorded last, and discards it from the recorded states.");
        when("the next undo goes to the one before", o -> {
            setMany(o, 3);
            o.undo();
            same(o.valueOf(0), 2);
            o.undo();
            same(o.valueOf(0), 1);
            o.undo();
            same(o.valueOf(0), 0);
        });
    }

    private void takingSnapshots() {
        of(14, "Takes a snapshot of the state, which replaces the previous snapshot.");
        when("the latest of two is restored", o -> {
            o.set(0, 1);
            o.takeSnapshot();
            o.set(0, 2);
            o.takeSnapshot();
            o.set(0, 3);
            o.restoreSnapshot();
            same(o.valueOf(0), 2);
        });
        when("one of a new object", o -> {
            o.takeSnapshot();
            o.setWidth(16);
            o.set(0, 1000);
            o.restoreSnapshot();
            same(o.valueOf(0), 0);
            same(o.width(), 8);
        });
        of(14, "Returns the width.");
        when("the width at first", o -> same(o.takeSnapshot(), 8));
        when("the least width", o -> {
            o.setWidth(4);
            same(o.takeSnapshot(), 4);
        });
        when("the greatest width", o -> {
            o.setWidth(16);
            same(o.takeSnapshot(), 16);
        });
    }

    private void restoring() {
        of(15, "Throws `IllegalStateException` if there is no snapshot");
        when("a new object", o -> refuses(o, STATE, () -> o.restoreSnapshot()));
        when("after actions and undos", o -> {
            setMany(o, 5);
            o.undo();
            refuses(o, STATE, () -> o.restoreSnapshot());
        });
        of(15, "Returns to the state of the snapshot, which is kept. This is an action.");
        when("it is kept, as it was", o -> {
            o.set(0, 1);
            o.takeSnapshot();
            for (int time = 0; time < 6; time++) {
                o.set(0, 50 + time);
                o.restoreSnapshot();
                same(o.valueOf(0), 1);
            }
        });
        when("undo of it goes to the state ahead of it", o -> {
            o.takeSnapshot();
            o.set(0, 9);
            o.restoreSnapshot();
            same(o.valueOf(0), 0);
            same(o.undo(), 1);
            same(o.valueOf(0), 9);
        });
        when("the fifth recorded state by it drives the oldest out", o -> {
            o.takeSnapshot();
            setMany(o, 4);
            o.restoreSnapshot();
            same(o.recordedStates(), 4);
            same(o.undo(), 3);
            same(o.valueOf(0), 4);
        });
        of(15, "Returns the width afterwards.");
        when("the snapshot's, not that of before", o -> {
            o.setWidth(4);
            o.takeSnapshot();
            o.setWidth(16);
            same(o.restoreSnapshot(), 4);
            same(o.width(), 4);
        });
    }

    private void whenSeveralApply() {
        of("Terms", "If several exceptions apply to a call, the one that is listed first is thrown.");
        first("set: the register, then the value", INDEX, o -> o.set(6, 128));
        first("begin: the multiplicand, then the recoding", INDEX, o -> o.begin(6, 0, SPARSE));
        first("begin: the multiplier, then the recoding", INDEX, o -> o.begin(0, -1, SPARSE));
        first("begin: the register, then the odd width", INDEX, o -> o.begin(0, 6, TRIPLES));
        first("store: the register, then nothing multiplied", INDEX, o -> o.store(6));
        first("digitAt: the register, then the recoding", INDEX, o -> o.digitAt(6, 3, 0));
        first("digitAt: the register, then the odd width", INDEX, o -> o.digitAt(-1, TRIPLES, 0));
        first("digitAt: the place, then the odd width", INDEX, o -> o.digitAt(0, TRIPLES, 3));
        first("digitAt: the place below 0, then the odd width", INDEX, o -> o.digitAt(0, TRIPLES, -1));
        first("rowsOf: the register, then the recoding", INDEX, o -> o.rowsOf(6, 3));
        first("rowsOf: the register, then the odd width", INDEX, o -> o.rowsOf(-1, TRIPLES));
        first("productByRows: the multiplicand, then the recoding", INDEX, o -> o.productByRows(6, 0, 3));
        first("productByRows: the multiplier, then the recoding", INDEX, o -> o.productByRows(0, 6, 3));
        first("productByRows: the register, then the odd width", INDEX, o -> o.productByRows(0, 6, TRIPLES));
        when("store: the register, then the steps left", o -> {
            o.begin(0, 0, PAIRS);
            refuses(o, INDEX, () -> o.store(6));
        });
    }

    private void first(String name, Class<? extends RuntimeException> due, Play call) {
        when(name, o -> {
            o.setWidth(7);
            refuses(o, due, () -> {
                call.on(o);
                return 0;
            });
        });
    }

    // ---- a call that throws changes nothing: told by a twin that the call was not made on

    private void refusalsOfRegisters() {
        of("Terms", "A call that throws an exception changes nothing.");
        twins("set", UndoBoundaries::crowded, o -> o.set(6, 0));
        twins("begin", UndoBoundaries::crowded, o -> o.begin(6, 0, PAIRS));
        twins("begin, the multiplier", UndoBoundaries::crowded, o -> o.begin(0, -1, PAIRS));
        twins("store", UndoBoundaries::multiplied, o -> o.store(6));
        twins("valueOf", UndoBoundaries::crowded, o -> o.valueOf(6));
        twins("onesOf", UndoBoundaries::crowded, o -> o.onesOf(-1));
        twins("digitAt", UndoBoundaries::crowded, o -> o.digitAt(6, PAIRS, 0));
        twins("rowsOf", UndoBoundaries::crowded, o -> o.rowsOf(6, PAIRS));
        twins("productByRows", UndoBoundaries::crowded, o -> o.productByRows(0, 6, PAIRS));
        twins("productByBits", UndoBoundaries::crowded, o -> o.productByBits(0, 6));
        twins("fits", UndoBoundaries::crowded, o -> o.fits(0, 6));
        twins("carries", UndoBoundaries::crowded, o -> o.carries(0, 6));
        twins("longestRun", UndoBoundaries::crowded, o -> o.longestRun(0, 6));
    }

    private void refusalsOfNumbers() {
        of("Terms", "A call that throws an exception changes nothing.");
        twins("setWidth too small", UndoBoundaries::crowded, o -> o.setWidth(3));
        twins("setWidth too large", UndoBoundaries::crowded, o -> o.setWidth(17));
        twins("set too small", UndoBoundaries::crowded, o -> o.set(0, -129));
        twins("set too large", UndoBoundaries::crowded, o -> o.set(0, 128));
        twins("begin by SPARSE", UndoBoundaries::crowded, o -> o.begin(0, 1, SPARSE));
        twins("digitAt of no place", UndoBoundaries::crowded, o -> o.digitAt(0, PAIRS, 8));
        twins("digitAt of no recoding", UndoBoundaries::crowded, o -> o.digitAt(0, 3, 0));
        twins("rowsOf of no recoding", UndoBoundaries::crowded, o -> o.rowsOf(0, 3));
        twins("productByRows of no recoding", UndoBoundaries::crowded, o -> o.productByRows(0, 1, 3));
    }

    private void refusalsOfStates() {
        of("Terms", "A call that throws an exception changes nothing.");
        twins("begin by TRIPLES at an odd width", UndoBoundaries::odd, o -> o.begin(0, 1, TRIPLES));
        twins("digitAt by TRIPLES at an odd width", UndoBoundaries::odd, o -> o.digitAt(0, TRIPLES, 0));
        twins("rowsOf by TRIPLES at an odd width", UndoBoundaries::odd, o -> o.rowsOf(0, TRIPLES));
        twins("productByRows by TRIPLES at an odd width", UndoBoundaries::odd, o -> o.productByRows(0, 1, TRIPLES));
        twins("step with nothing multiplied", UndoBoundaries::odd, o -> o.step());
        twins("step with no steps left", UndoBoundaries::multiplied, o -> o.step());
        twins("finish with nothing multiplied", UndoBoundaries::odd, o -> o.finish());
        twins("store with nothing multiplied", UndoBoundaries::odd, o -> o.store(0));
        twins("store with steps left", UndoBoundaries::crowded, o -> o.store(0));
        twins("type into a full program", UndoBoundaries::odd, o -> o.type('A'));
        twins("firstOverflow of a program that is not valid", UndoBoundaries::crowded, o -> o.firstOverflow());
        twins("carryOut of a program that is not valid", UndoBoundaries::crowded, o -> o.carryOut());
        twins("undo of nothing", UndoBoundaries::nothingRecorded, o -> o.undo());
        twins("restoreSnapshot of none", o -> setMany(o, 5), o -> o.restoreSnapshot());
        twins("highPart with nothing multiplied", UndoBoundaries::odd, o -> o.highPart());
        twins("lowPart with nothing multiplied", UndoBoundaries::odd, o -> o.lowPart());
        twins("extraBit with nothing multiplied", UndoBoundaries::odd, o -> o.extraBit());
    }

    private void twins(String name, Play setUp, Play refused) {
        when(name, o -> {
            BoothOtters twin = new BoothOtters();
            setUp.on(o);
            setUp.on(twin);
            holds(Checks.thrownBy(() -> {
                refused.on(o);
                return 0;
            }) != null);
            holds(usedUp(o).equals(usedUp(twin)));
        });
    }

    /** 4 recorded states, a snapshot unlike the state, steps left, and a program with a wrong last step. */
    private static void crowded(BoothOtters otters) {
        multiplied(otters);
        otters.begin(2, 1, TRIPLES);
        otters.step();
        Checks.type(otters, "A=#300;B=#7;C=G");
    }

    /** The same with no steps left, and with no program. */
    private static void multiplied(BoothOtters otters) {
        otters.takeSnapshot();
        otters.set(1, -77);
        otters.set(2, 99);
        otters.begin(1, 2, PAIRS);
        otters.finish();
        otters.store(3);
        otters.begin(3, 2, PAIRS);
        otters.finish();
    }

    /** An odd width, nothing multiplied, a full program. */
    private static void odd(BoothOtters otters) {
        multiplied(otters);
        otters.setWidth(7);
        otters.set(0, 63);
        Checks.type(otters, "A=#300;".repeat(8) + "A=B;");
    }

    private static void nothingRecorded(BoothOtters otters) {
        multiplied(otters);
        while (otters.recordedStates() > 0) {
            otters.undo();
        }
    }

    /** All that shows, now and in each recorded state and in the snapshot; nothing of the object is left by it. */
    private static List<Long> usedUp(BoothOtters otters) {
        List<Long> shown = new ArrayList<>(Checks.allThatShows(otters));
        shown.add((long) otters.clearProgram());
        while (otters.recordedStates() > 0) {
            shown.add((long) otters.undo());
            shown.addAll(Checks.allThatShows(otters));
        }
        if (Checks.thrownBy(() -> otters.restoreSnapshot()) == null) {
            shown.addAll(Checks.allThatShows(otters));
        }
        return shown;
    }
}
