/** Terms, HISTORY: each sentence that names an edge, by itself. */
public final class HistoryEdgesTest {
    private static final Checks checks = new Checks("HistoryEdgesTest");

    private static final String[] ACT_NAMES = {
        "strew", "sweep", "clamp", "unclamp", "set", "bow", "bowAll", "strike", "play", "restore",
    };
    private static final Run.Call[] ACTS = {
        plate -> plate.strew(4, 4, 3), plate -> plate.sweep(2), plate -> plate.clamp(3, 8),
        plate -> plate.unclamp(0), plate -> plate.set(2, 9), plate -> plate.bow(2, 3, 4), BowedPlate::bowAll,
        plate -> plate.strike(0), plate -> plate.play(2), BowedPlate::restore,
    };

    /** Something of everything, so that each act can be done; two states are in the history. */
    private static final Run SOME = Run.of(
            plate -> plate.bow(0, 0, 2), plate -> plate.play(1), plate -> plate.bow(0, 1, 2),
            plate -> plate.bow(1, 0, 3), plate -> plate.clamp(4, 7), plate -> plate.set(3, 120),
            plate -> plate.strew(7, 7, 30), BowedPlate::keep, plate -> plate.sweep(1),
            BowedPlate::undo, BowedPlate::undo)
            .typed("b7x5,r2");

    private HistoryEdgesTest() {
    }

    public static void main(String[] arguments) {
        emptyAtFirst();
        atMostFourStates();
        theOldestOneIsDropped();
        eachActRecordsTheStateBeforeIt();
        eachActIntoAFullHistory();
        actsOfAllKindsInARow();
        roomAgainByUndo();
        roundAndRound();
        actsThatChangeNothingAreRecorded();
        whatIsNoActIsNotRecorded();
        whatIsNoActChangesNothing();
        undoIsNotUndone();
        undoOfNoneLeft();
        undoRestoresAll();
        undoLeavesTextAndSnapshot();
        snapshotIsEmptyAtFirst();
        oneSnapshotInPlaceOfTheOneThatWas();
        snapshotStays();
        snapshotHoldsAll();
        restoreLeavesTextAndHistory();
        restoreIntoAFullHistory();
        snapshotOfAStateThatIsUndone();
        checks.end();
    }

    /** "NONE if the history is empty". */
    private static void emptyAtFirst() {
        BowedPlate plate = new BowedPlate();
        checks.due("count(15)", 0, plate.count(15));
        checks.due("undo()", -5, plate.undo());
        checks.due("count(15)", 0, plate.count(15));
        checks.due("count(0)", 720, plate.count(0));
        plate.strew(0, 0, 1);
        checks.due("count(15)", 1, plate.count(15));
        checks.due("undo() of the only one", 0, plate.undo());
        checks.due("undo() of none", -5, plate.undo());
    }

    /** "A history of at most 4 states is kept". */
    private static void atMostFourStates() {
        int[] due = {1, 2, 3, 4, 4, 4, 4, 4, 4, 4};
        BowedPlate plate = new BowedPlate();
        for (int act = 0; act < due.length; act++) {
            plate.strew(0, 0, 1);
            checks.due("count(15) behind " + (act + 1) + " acts", due[act], plate.count(15));
        }
    }

    /** "when one more is recorded, the oldest one is dropped": after 4 none, after 5 one, and so on. */
    private static void theOldestOneIsDropped() {
        for (int acts = 1; acts <= 13; acts++) {
            BowedPlate plate = new BowedPlate();
            for (int act = 0; act < acts; act++) {
                plate.strew(5, 5, 1 + act);
            }
            int kept = Math.min(acts, 4);
            for (int left = kept - 1; left >= 0; left--) {
                checks.due(acts + " acts: undo()", left, plate.undo());
                int strewn = acts - kept + left;
                checks.due(acts + " acts, " + left + " left", 5 + strewn * (strewn + 1) / 2, plate.place(5, 5, 0));
            }
            checks.due(acts + " acts: undo() of none", -5, plate.undo());
        }
    }

    /** "Each call of a method that is described as an act ... records the state that was before it". */
    private static void eachActRecordsTheStateBeforeIt() {
        for (int index = 0; index < ACTS.length; index++) {
            checks.holds(ACT_NAMES[index] + " is no error", SOME.answer(ACTS[index]) >= 0);
            Run acted = SOME.then(ACTS[index]);
            checks.due("count(15) behind " + ACT_NAMES[index], 3, acted.answer(plate -> plate.count(15)));
            checks.due("undo() of " + ACT_NAMES[index], 2, acted.answer(BowedPlate::undo));
            Questions.same(checks, "undo() of " + ACT_NAMES[index], SOME, acted.then(BowedPlate::undo));
        }
    }

    private static void eachActIntoAFullHistory() {
        Run full = SOME.times(3, plate -> plate.strew(1, 1, 1));
        for (int index = 0; index < ACTS.length; index++) {
            checks.holds(ACT_NAMES[index] + " is no error", full.answer(ACTS[index]) >= 0);
            Run acted = full.then(ACTS[index]);
            checks.due("4 states behind " + ACT_NAMES[index], 4, acted.answer(plate -> plate.count(15)));
            checks.due("undo() of " + ACT_NAMES[index], 3, acted.answer(BowedPlate::undo));
            Questions.sameButForHistory(checks, "undo() of " + ACT_NAMES[index] + " in a full history", full,
                    acted.then(BowedPlate::undo));
            Questions.sameButForHistory(checks, "4 times undo() behind " + ACT_NAMES[index], SOME,
                    acted.times(4, BowedPlate::undo));
            checks.due("5 times undo() behind " + ACT_NAMES[index], -5,
                    acted.times(4, BowedPlate::undo).answer(BowedPlate::undo));
        }
    }

    /** Each of the last four states is its own. */
    private static void actsOfAllKindsInARow() {
        Run.Call[] acts = {ACTS[0], ACTS[4], ACTS[2], ACTS[5], ACTS[6], ACTS[7], ACTS[8], ACTS[1], ACTS[9], ACTS[3]};
        Run run = SOME;
        Run[] before = new Run[acts.length];
        for (int act = 0; act < acts.length; act++) {
            before[act] = run;
            checks.holds("act " + act + " is no error", run.answer(acts[act]) >= 0);
            run = run.then(acts[act]);
            for (int undos = 1; undos <= 4 && undos <= act + 1; undos++) {
                Questions.sameButForHistory(checks, undos + " times undo() behind act " + act, before[act + 1 - undos],
                        run.times(undos, BowedPlate::undo));
            }
        }
    }

    /** What comes behind the full history: undo() makes room, so that none is dropped. */
    private static void roomAgainByUndo() {
        BowedPlate plate = Run.of().times(4, p -> p.strew(0, 0, 10)).plate();
        checks.due("undo()", 3, plate.undo());
        plate.strew(0, 0, 1);
        checks.due("count(15)", 4, plate.count(15));
        int[] due = {35, 25, 15, 5};
        for (int index = 0; index < 4; index++) {
            checks.due("undo()", 3 - index, plate.undo());
            checks.due("place(0, 0, 0)", due[index], plate.place(0, 0, 0));
        }
        checks.due("undo()", -5, plate.undo());
    }

    /** Acts and undo() in turn, as long as an object is good for. */
    private static void roundAndRound() {
        for (int acts = 1; acts <= 6; acts++) {
            for (int undos = 1; undos <= 5; undos++) {
                BowedPlate plate = new BowedPlate();
                int[] states = new int[4];
                int held = 0;
                int grains = 5;
                for (int call = 0; call < 250; call++) {
                    if (call % (acts + undos) < acts) {
                        if (held == 4) {
                            System.arraycopy(states, 1, states, 0, 3);
                            held--;
                        }
                        states[held++] = grains;
                        grains += 1 + call % 99;
                        checks.due("strew", grains, plate.strew(6, 5, 1 + call % 99));
                    } else if (held == 0) {
                        checks.due("undo() of none", -5, plate.undo());
                    } else {
                        grains = states[--held];
                        checks.due("undo()", held, plate.undo());
                    }
                    checks.due(acts + " acts, " + undos + " undos, call " + call, grains, plate.place(6, 5, 0));
                }
            }
        }
    }

    /** Acts that answer 0, or leave all as it was, are recorded too. */
    private static void actsThatChangeNothingAreRecorded() {
        Run kept = Run.of(plate -> plate.sweep(0), BowedPlate::keep);
        Run.Call[] acts = {plate -> plate.sweep(0), BowedPlate::restore};
        for (int index = 0; index < acts.length; index++) {
            checks.due("act " + index, 0, kept.answer(acts[index]));
            checks.due("states behind act " + index, 2, kept.then(acts[index]).answer(plate -> plate.count(15)));
        }
        BowedPlate plate = Run.of(p -> p.clamp(0, 0), p -> p.bow(0, 0, 1)).plate();
        checks.due("play(1) of a mute one", 0, plate.play(1));
        checks.due("count(15)", 3, plate.count(15));
        checks.due("undo()", 2, plate.undo());
        checks.due("count(5)", 1, plate.count(5));
        checks.due("unclamp(0) of the only one", 0, plate.unclamp(0));
        checks.due("count(15)", 3, plate.count(15));
        checks.due("undo()", 2, plate.undo());
        checks.due("count(4)", 1, plate.count(4));
    }

    /** type(), clearText(), undo() and keep() are not described as acts. */
    private static void whatIsNoActIsNotRecorded() {
        BowedPlate plate = SOME.plate();
        checks.due("count(15)", 2, plate.count(15));
        plate.type('q');
        checks.due("count(15) behind type()", 2, plate.count(15));
        plate.clearText();
        checks.due("count(15) behind clearText()", 2, plate.count(15));
        plate.keep();
        checks.due("count(15) behind keep()", 2, plate.count(15));
        plate.undo();
        checks.due("count(15) behind undo()", 1, plate.count(15));
    }

    /** What is told changes nothing, whichever answer it has. */
    private static void whatIsNoActChangesNothing() {
        Run asked = SOME;
        for (int question = 0; question < 400; question++) {
            asked = asked.then(Questions.CALLS.get((question * 7) % Questions.CALLS.size()));
        }
        new Aftermath(SOME).isSeenBehind(asked, "behind 400 questions", checks);
        Run typed = SOME.then(plate -> plate.type('x'), BowedPlate::clearText).typed("b7x5,r2");
        new Aftermath(SOME).isSeenBehind(typed, "behind another text and the same again", checks);
    }

    /** "Removes and restores the latest state": it can't be brought back by another undo(). */
    private static void undoIsNotUndone() {
        BowedPlate plate = new BowedPlate();
        plate.strew(0, 0, 10);
        plate.strew(0, 0, 20);
        checks.due("undo()", 1, plate.undo());
        checks.due("undo()", 0, plate.undo());
        checks.due("place(0, 0, 0)", 5, plate.place(0, 0, 0));
        checks.due("undo() of none", -5, plate.undo());
        checks.due("place(0, 0, 0)", 5, plate.place(0, 0, 0));
    }

    private static void undoOfNoneLeft() {
        Run run = SOME.times(2, BowedPlate::undo);
        checks.due("undo() of none", -5, run.answer(BowedPlate::undo));
        new Aftermath(run).isSeenBehind(run.then(BowedPlate::undo), "undo() of none", checks);
        new Aftermath(run).isSeenBehind(run.times(9, BowedPlate::undo), "9 times undo() of none", checks);
    }

    /** "A state is everything": each number of it comes back. */
    private static void undoRestoresAll() {
        Run changed = SOME.then(plate -> plate.play(16), plate -> plate.sweep(9), plate -> plate.unclamp(0),
                plate -> plate.set(0, 1));
        int[] before = SOME.told();
        int[] behind = changed.told();
        int differ = 0;
        for (int question = 0; question < 16; question++) {
            differ += before[question] == behind[question] ? 0 : 1;
        }
        checks.holds("many counts changed: " + differ, differ >= 9);
        Questions.sameButForHistory(checks, "4 times undo()", SOME, changed.times(4, BowedPlate::undo));
        // count(6), count(7) and count(8) of strokes that are undone
        BowedPlate plate = Run.of(p -> p.clamp(0, 0), p -> p.bow(0, 0, 4), p -> p.bow(0, 11, 5), p -> p.play(2)).plate();
        checks.due("strokes", 5, plate.count(6));
        checks.due("mutes", 1, plate.count(7));
        checks.due("the last way", 1, plate.count(8));
        checks.holds("some fell", plate.count(3) > 0);
        plate.undo();
        checks.due("strokes behind undo()", 0, plate.count(6));
        checks.due("mutes behind undo()", 0, plate.count(7));
        checks.due("the last way behind undo()", -5, plate.count(8));
        checks.due("fallen behind undo()", 0, plate.count(3));
        checks.due("grains behind undo()", 720, plate.count(0));
    }

    /** "everything but the text, the history and the snapshot". */
    private static void undoLeavesTextAndSnapshot() {
        BowedPlate plate = new BowedPlate();
        plate.strew(2, 2, 1);
        plate.type('t');
        plate.sweep(6);
        plate.keep();
        plate.type('4');
        checks.due("undo()", 1, plate.undo());
        checks.due("undo()", 0, plate.undo());
        checks.due("count(16)", 2, plate.count(16));
        checks.due("the snapshot is as it was kept", 144 * 6, plate.restore());
        checks.due("the text is as it was typed", 1, plate.bowAll());
        plate.clearText();
        checks.due("undo() of bowAll()", 1, plate.undo());
        checks.due("a cleared text does not come back", 0, plate.count(16));
    }

    /** "There is one snapshot, empty at first", "NONE if there is no snapshot". */
    private static void snapshotIsEmptyAtFirst() {
        BowedPlate plate = new BowedPlate();
        checks.due("restore()", -5, plate.restore());
        plate.strew(1, 2, 3);
        checks.due("restore()", -5, plate.restore());
        checks.due("count(0)", 723, plate.count(0));
        checks.due("count(15)", 1, plate.count(15));
        plate.undo();
        checks.due("restore()", -5, plate.restore());
        checks.due("keep() on a new object", 720, plate.keep());
        checks.due("restore()", 720, plate.restore());
    }

    /** "in place of the one that was". */
    private static void oneSnapshotInPlaceOfTheOneThatWas() {
        BowedPlate plate = new BowedPlate();
        for (int grains = 1; grains <= 9; grains++) {
            plate.sweep(grains);
            checks.due("keep()", 144 * grains, plate.keep());
        }
        plate.sweep(50);
        checks.due("restore(): the last one kept", 144 * 9, plate.restore());
        checks.due("restore(): no other behind it", 144 * 9, plate.restore());
    }

    /** "Restores the state of the snapshot, which stays". */
    private static void snapshotStays() {
        BowedPlate plate = new BowedPlate();
        plate.keep();
        for (int time = 0; time < 9; time++) {
            plate.strew(time, time, 9);
            plate.clamp(time, 3);
            plate.bow(0, time, 2);
            plate.play(1);
            checks.due("restore()", 720, plate.restore());
            checks.due("count(4)", 0, plate.count(4));
            checks.due("count(5)", 0, plate.count(5));
            checks.due("count(6)", 0, plate.count(6));
            checks.due("place", 5, plate.place(time, time, 0));
        }
    }

    private static void snapshotHoldsAll() {
        Run changed = SOME.then(BowedPlate::keep).then(plate -> plate.play(16), plate -> plate.sweep(9),
                plate -> plate.unclamp(0), plate -> plate.set(0, 1), plate -> plate.set(1, 1),
                plate -> plate.set(2, 1), plate -> plate.set(3, 51), plate -> plate.clamp(9, 9));
        Questions.sameButForHistory(checks, "restore()", SOME, changed.then(BowedPlate::restore));
        checks.due("what restore() answers", SOME.answer(plate -> plate.count(0)), changed.answer(BowedPlate::restore));
        Questions.sameButForHistory(checks, "undo() of restore()", changed,
                changed.then(BowedPlate::restore, BowedPlate::undo));
        Questions.sameButForHistory(checks, "restore() twice", SOME,
                changed.then(BowedPlate::restore, BowedPlate::restore));
    }

    /** "everything but the text, the history and the snapshot". */
    private static void restoreLeavesTextAndHistory() {
        BowedPlate plate = Run.of().typed("t1").plate();
        plate.keep();
        plate.type('x');
        plate.type('5');
        plate.strew(0, 0, 1);
        plate.strew(0, 0, 1);
        checks.due("restore()", 720, plate.restore());
        checks.due("count(16)", 4, plate.count(16));
        checks.due("count(15): two acts and restore()", 3, plate.count(15));
        checks.due("bowAll()", 1, plate.bowAll());
        checks.due("strokes", 5, plate.waiting(0, 2));
        plate.undo();
        checks.due("undo() of restore()", 2, plate.undo());
        checks.due("place(0, 0, 0)", 7, plate.place(0, 0, 0));
        checks.due("undo()", 1, plate.undo());
        checks.due("place(0, 0, 0)", 6, plate.place(0, 0, 0));
    }

    private static void restoreIntoAFullHistory() {
        BowedPlate plate = new BowedPlate();
        plate.keep();
        for (int act = 0; act < 4; act++) {
            plate.strew(0, 0, 1);
        }
        checks.due("restore()", 720, plate.restore());
        checks.due("count(15)", 4, plate.count(15));
        int[] due = {9, 8, 7, 6};
        for (int index = 0; index < 4; index++) {
            checks.due("undo()", 3 - index, plate.undo());
            checks.due("place(0, 0, 0)", due[index], plate.place(0, 0, 0));
        }
        checks.due("the oldest one was dropped", -5, plate.undo());
    }

    private static void snapshotOfAStateThatIsUndone() {
        BowedPlate plate = new BowedPlate();
        plate.clamp(2, 2);
        plate.keep();
        checks.due("undo()", 0, plate.undo());
        checks.due("count(4)", 0, plate.count(4));
        checks.due("restore()", 720, plate.restore());
        checks.due("count(4)", 1, plate.count(4));
        checks.due("undo()", 0, plate.undo());
        checks.due("count(4)", 0, plate.count(4));
    }
}
