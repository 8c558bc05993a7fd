/** Promises 13 to 15: undo, keep, restore (Terms, HISTORY). */
public final class HistoryTest {
    private static final Checks checks = new Checks("HistoryTest");

    private HistoryTest() {
    }

    public static void main(String[] arguments) {
        undo();
        fourStatesAreKept();
        othersAreNotRecorded();
        undoBringsAllBack();
        keepAndRestore();
        undoLeavesTextAndSnapshot();
        checks.end();
    }

    private static void undo() {
        BowedPlate plate = new BowedPlate();
        checks.due("undo() of none", -5, plate.undo());
        plate.strew(0, 0, 1);
        plate.strew(0, 0, 2);
        checks.due("undo()", 1, plate.undo());
        checks.due("place(0, 0, 0)", 6, plate.place(0, 0, 0));
        checks.due("undo()", 0, plate.undo());
        checks.due("place(0, 0, 0)", 5, plate.place(0, 0, 0));
        checks.due("undo() of none", -5, plate.undo());
        checks.due("count(15)", 0, plate.count(15));
    }

    private static void fourStatesAreKept() {
        BowedPlate plate = new BowedPlate();
        for (int grains = 1; grains <= 7; grains++) {
            plate.strew(1, 1, 10);
        }
        checks.due("count(15)", 4, plate.count(15));
        for (int left = 3; left >= 0; left--) {
            checks.due("undo()", left, plate.undo());
            checks.due("place(1, 1, 0)", 5 + 10 * (3 + left), plate.place(1, 1, 0));
        }
        checks.due("undo() of none", -5, plate.undo());
        plate.strew(1, 1, 1);
        plate.strew(1, 1, 1);
        checks.due("undo()", 1, plate.undo());
        plate.strew(1, 1, 7);
        checks.due("undo()", 1, plate.undo());
        checks.due("place(1, 1, 0)", 36, plate.place(1, 1, 0));
    }

    private static void othersAreNotRecorded() {
        BowedPlate plate = new BowedPlate();
        plate.strew(0, 0, 1);
        plate.type('q');
        plate.keep();
        plate.strew(12, 0, 1);
        plate.strew(0, 0, 0);
        plate.sweep(100);
        plate.clamp(12, 0);
        plate.unclamp(0);
        plate.set(0, 20);
        plate.set(0, 61);
        plate.bow(4, 0, 1);
        plate.bow(0, 0, 0);
        plate.bowAll();
        plate.strike(0);
        plate.strike(4);
        plate.play(1);
        plate.play(0);
        plate.clearText();
        checks.due("count(15)", 1, plate.count(15));
        checks.due("undo()", 0, plate.undo());
        checks.due("place(0, 0, 0)", 5, plate.place(0, 0, 0));
    }

    private static void undoBringsAllBack() {
        Run before = Run.of(plate -> plate.clamp(5, 5), plate -> plate.set(2, 30), plate -> plate.bow(0, 0, 3),
                plate -> plate.play(1), plate -> plate.bow(1, 1, 4), BowedPlate::keep);
        Run changed = before.then(plate -> plate.sweep(7), plate -> plate.unclamp(0), plate -> plate.set(2, 12),
                plate -> plate.play(1));
        Questions.sameButForHistory(checks, "undo()", before, changed.times(4, BowedPlate::undo));
        Questions.sameButForHistory(checks, "restore()", before, changed.then(BowedPlate::restore));
        BowedPlate plate = changed.then(BowedPlate::restore).plate();
        checks.due("restore() is an act", 4, plate.count(15));
        plate.undo();
        checks.due("undo() of restore()", 0, plate.count(4));
        checks.due("undo() of restore()", 12, plate.count(13));
        checks.due("undo() of restore()", 0, plate.count(5));
    }

    private static void keepAndRestore() {
        BowedPlate plate = new BowedPlate();
        checks.due("restore() without a snapshot", -5, plate.restore());
        plate.strew(0, 0, 10);
        checks.due("keep()", 730, plate.keep());
        checks.due("keep() is no act", 1, plate.count(15));
        plate.sweep(0);
        checks.due("restore()", 730, plate.restore());
        checks.due("place(0, 0, 0)", 15, plate.place(0, 0, 0));
        plate.strew(0, 0, 1);
        checks.due("restore() again: it stays", 730, plate.restore());
        checks.due("restore() of the same is an act too", 730, plate.restore());
        checks.due("count(15)", 4, plate.count(15));
        plate.sweep(1);
        checks.due("keep() in place of the one that was", 144, plate.keep());
        plate.sweep(4);
        checks.due("restore()", 144, plate.restore());
        plate.strew(3, 3, 5);
        checks.due("the snapshot does not change with the plate", 144, plate.restore());
    }

    private static void undoLeavesTextAndSnapshot() {
        BowedPlate plate = new BowedPlate();
        plate.strew(0, 0, 1);
        plate.type('t');
        plate.sweep(1);
        plate.keep();
        checks.due("undo()", 1, plate.undo());
        checks.due("count(16)", 1, plate.count(16));
        checks.due("restore()", 144, plate.restore());
        plate.type('3');
        plate.restore();
        checks.due("count(16): restore() leaves the text", 2, plate.count(16));
        checks.due("the history is no part of the snapshot", 3, plate.count(15));
    }
}
