import java.util.List;

/** Promises 13, 14, 15 and 32: undo, takeSnapshot, restoreSnapshot and recordedStates. */
final class UndoTest {
    private static final Class<IllegalStateException> STATE = IllegalStateException.class;
    private static final Checks CHECKS = new Checks();

    public static void main(String[] args) {
        latestFour();
        everyAction();
        stateComesBack();
        multiplicationComesBack();
        snapshots();
        snapshotAndUndo();
        CHECKS.end();
    }

    private static void latestFour() {
        BoothOtters otters = new BoothOtters();
        CHECKS.refuses(otters, "undo of nothing", STATE, () -> otters.undo());
        for (int value = 1; value <= 11; value++) {
            otters.set(0, value);
            CHECKS.same("recordedStates()", otters.recordedStates(), Math.min(value, 4));
        }
        for (int left = 3; left >= 0; left--) {
            CHECKS.same("undo()", otters.undo(), left);
            CHECKS.same("the value then", otters.valueOf(0), left + 7);
            CHECKS.same("recordedStates()", otters.recordedStates(), left);
        }
        CHECKS.refuses(otters, "a fifth undo", STATE, () -> otters.undo());
        otters.set(0, 50);
        otters.set(0, 51);
        CHECKS.same("undo()", otters.undo(), 1);
        otters.set(0, 52);
        CHECKS.same("undo()", otters.undo(), 1);
        CHECKS.same("the value then", otters.valueOf(0), 50);
        CHECKS.same("undo()", otters.undo(), 0);
        CHECKS.same("the value then", otters.valueOf(0), 7);
    }

    /** Each action records once and is taken back by one undo; other calls record nothing. */
    private static void everyAction() {
        BoothOtters otters = new BoothOtters();
        otters.set(0, -100);
        otters.takeSnapshot();
        Checks.type(otters, "B=A+A;C=#7");
        otters.undo();
        action(otters, "setWidth", () -> otters.setWidth(10));
        action(otters, "setWidth to the same", () -> otters.setWidth(8));
        action(otters, "set", () -> otters.set(3, 77));
        action(otters, "set to the same", () -> otters.set(3, 0));
        action(otters, "begin", () -> otters.begin(3, 4, BoothOtters.TRIPLES));
        action(otters, "carryOut", () -> otters.carryOut());
        action(otters, "restoreSnapshot", () -> otters.restoreSnapshot());
        otters.set(3, -77);
        otters.begin(3, 3, BoothOtters.PAIRS);
        action(otters, "step", () -> otters.step());
        action(otters, "finish", () -> otters.finish());
        otters.finish();
        action(otters, "finish with no steps left", () -> otters.finish());
        otters.undo();
        otters.undo();
        otters.begin(3, 3, BoothOtters.TRIPLES);
        otters.finish();
        CHECKS.same("recordedStates()", otters.recordedStates(), 3);
        action(otters, "store", () -> otters.store(0));
    }

    private static void action(BoothOtters otters, String what, Checks.Call call) {
        List<Long> before = Checks.allThatShows(otters);
        int recorded = otters.recordedStates();
        call.answer();
        CHECKS.same(what + " records", otters.recordedStates(), recorded + 1);
        CHECKS.same("undo of " + what, otters.undo(), recorded);
        CHECKS.holds("undo brings back what was before " + what, Checks.allThatShows(otters).equals(before));
    }

    private static void stateComesBack() {
        BoothOtters otters = new BoothOtters();
        otters.set(0, -128);
        otters.set(1, 3);
        otters.begin(0, 1, BoothOtters.TRIPLES);
        otters.step();
        otters.setWidth(5);
        Checks.type(otters, "A=B");
        otters.undo();
        CHECKS.same("width()", otters.width(), 8);
        CHECKS.same("valueOf(0)", otters.valueOf(0), -128);
        CHECKS.same("stepsLeft()", otters.stepsLeft(), 3);
        CHECKS.same("the program is no part of the state", otters.clearProgram(), 3);
        otters.finish();
        CHECKS.same("the multiplication goes on as it was", otters.store(2), -128);
        CHECKS.same("-384 is an overflow", otters.overflows(), 1);
        CHECKS.same("stepsMade()", otters.stepsMade(), 4);
        otters.undo();
        CHECKS.same("undo takes the overflow back", otters.overflows(), 0);
        otters.undo();
        CHECKS.same("undo takes the steps back", otters.stepsMade(), 1);
    }

    /** A multiplication that another one displaced goes on with its own width, recoding and multiplicand. */
    private static void multiplicationComesBack() {
        BoothOtters otters = new BoothOtters();
        otters.set(0, 13);
        otters.set(1, -11);
        otters.begin(0, 1, BoothOtters.TRIPLES);
        otters.step();
        otters.begin(1, 1, BoothOtters.PAIRS);
        otters.undo();
        otters.finish();
        CHECKS.same("TRIPLES go on behind PAIRS", otters.highPart() * 256 + otters.lowPart(), -143);
        otters.begin(0, 1, BoothOtters.PAIRS);
        otters.setWidth(12);
        otters.begin(1, 0, BoothOtters.TRIPLES);
        otters.undo();
        otters.undo();
        CHECKS.same("PAIRS go on behind TRIPLES", otters.stepsLeft(), 8);
        otters.finish();
        CHECKS.same("with the width they had", otters.highPart() * 256 + otters.lowPart(), -143);
        CHECKS.same("stepsMade()", otters.stepsMade(), 12);
    }

    private static void snapshots() {
        BoothOtters otters = new BoothOtters();
        CHECKS.refuses(otters, "restoreSnapshot without one", STATE, () -> otters.restoreSnapshot());
        CHECKS.same("takeSnapshot()", otters.takeSnapshot(), 8);
        CHECKS.same("takeSnapshot() is no action", otters.recordedStates(), 0);
        otters.setWidth(6);
        otters.set(4, -32);
        CHECKS.same("takeSnapshot()", otters.takeSnapshot(), 6);
        otters.setWidth(12);
        otters.set(4, 1000);
        Checks.type(otters, "A=#4000");
        otters.carryOut();
        CHECKS.same("restoreSnapshot()", otters.restoreSnapshot(), 6);
        CHECKS.same("the latest snapshot counts", otters.valueOf(4), -32);
        CHECKS.same("its overflows count", otters.overflows(), 0);
        CHECKS.same("the program is no part of it", otters.clearProgram(), 7);
        CHECKS.same("the recorded states are no part of it", otters.recordedStates(), 4);
        otters.set(4, 3);
        CHECKS.same("the snapshot is kept", otters.restoreSnapshot(), 6);
        CHECKS.same("the snapshot is as it was", otters.valueOf(4), -32);
    }

    private static void snapshotAndUndo() {
        BoothOtters otters = new BoothOtters();
        otters.set(0, 11);
        otters.set(1, 13);
        otters.begin(0, 1, BoothOtters.PAIRS);
        otters.step();
        otters.takeSnapshot();
        otters.setWidth(13);
        otters.restoreSnapshot();
        CHECKS.same("the multiplication comes back", otters.stepsLeft(), 7);
        otters.undo();
        CHECKS.same("restoreSnapshot is an action", otters.width(), 13);
        CHECKS.same("nothing was multiplied then", otters.stepsLeft(), BoothOtters.NONE);
        otters.undo();
        otters.undo();
        CHECKS.same("undo reaches behind the snapshot", otters.stepsLeft(), 8);
        otters.undo();
        CHECKS.refuses(otters, "undo of nothing", STATE, () -> otters.undo());
        CHECKS.same("undo leaves the snapshot", otters.restoreSnapshot(), 8);
        otters.finish();
        CHECKS.same("the snapshot's multiplication goes on", otters.highPart() * 256 + otters.lowPart(), 143);
        CHECKS.same("store", otters.store(5), -113);
    }
}
