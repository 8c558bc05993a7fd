/**
 * All that can be seen of an object behind a run: at once, behind one undo() to four, behind
 * restore(), and behind play(16) with bowAll(), which shows the text.
 */
final class Aftermath {
    private static final Run.Call UNDO = BowedPlate::undo;
    private static final String[] NAMES = {
        "", "undo(): ", "2 times undo(): ", "3 times undo(): ", "4 times undo(): ", "restore(): ",
        "play(16), bowAll(): ",
    };
    private static final Run[] TAILS = {
        Run.of(), Run.of(UNDO), Run.of(UNDO, UNDO), Run.of(UNDO, UNDO, UNDO), Run.of(UNDO, UNDO, UNDO, UNDO),
        Run.of(BowedPlate::restore), Run.of(plate -> plate.play(16), BowedPlate::bowAll),
    };

    private final int[][] told = new int[TAILS.length][];

    Aftermath(Run run) {
        for (int tail = 0; tail < TAILS.length; tail++) {
            told[tail] = run.then(TAILS[tail]).told();
        }
    }

    /** Checks that all is as it was behind this aftermath's run. */
    void isSeenBehind(Run run, String title, Checks checks) {
        Aftermath other = new Aftermath(run);
        for (int tail = 0; tail < TAILS.length; tail++) {
            for (int question = 0; question < told[tail].length; question++) {
                checks.due(title + ": " + NAMES[tail] + Questions.NAMES.get(question),
                        told[tail][question], other.told[tail][question]);
            }
        }
    }
}
