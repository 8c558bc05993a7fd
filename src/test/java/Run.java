import java.util.ArrayList;
import java.util.List;

/**
 * Calls that can be made anew on a fresh object. An object is good for 512 calls, so what a run
 * leaves behind is asked of as many objects as the questions need.
 */
final class Run {
    static final int MOST_CALLS = 512;

    interface Call {
        int on(BowedPlate plate);
    }

    private final List<Call> calls;

    private Run(List<Call> calls) {
        this.calls = calls;
    }

    static Run of(Call... calls) {
        return new Run(List.of(calls));
    }

    Run then(Call... more) {
        return then(of(more));
    }

    Run then(Run more) {
        List<Call> all = new ArrayList<>(calls);
        all.addAll(more.calls);
        return new Run(all);
    }

    Run times(int times, Call call) {
        Run run = this;
        for (int time = 0; time < times; time++) {
            run = run.then(call);
        }
        return run;
    }

    Run typed(String text) {
        Run run = this;
        for (int index = 0; index < text.length(); index++) {
            char character = text.charAt(index);
            run = run.then(plate -> plate.type(character));
        }
        return run;
    }

    /** A new object with these calls made. */
    BowedPlate plate() {
        BowedPlate plate = new BowedPlate();
        for (Call call : calls) {
            call.on(plate);
        }
        return plate;
    }

    /** What a call behind this run answers. */
    int answer(Call call) {
        return call.on(plate());
    }

    /** What each of the calls answers. */
    int[] answers() {
        BowedPlate plate = new BowedPlate();
        int[] answers = new int[calls.size()];
        for (int index = 0; index < answers.length; index++) {
            answers[index] = calls.get(index).on(plate);
        }
        return answers;
    }

    /** What each question answers behind this run. */
    int[] told() {
        List<Call> questions = Questions.CALLS;
        int[] told = new int[questions.size()];
        BowedPlate plate = plate();
        int made = calls.size();
        for (int index = 0; index < told.length; index++) {
            if (made == MOST_CALLS) {
                plate = plate();
                made = calls.size();
            }
            told[index] = questions.get(index).on(plate);
            made++;
        }
        return told;
    }
}
