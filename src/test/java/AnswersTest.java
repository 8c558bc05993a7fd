import java.util.LinkedHashMap;
import java.util.Map;
import java.util.Set;
import java.util.TreeSet;

/**
 * Terms, ERRORS: "Errors are reported by the constants below". Behind many runs each call answers
 * a number from 0 on, or an error of its @return line; each of those errors is answered once at least.
 */
public final class AnswersTest {
    private static final Checks checks = new Checks("AnswersTest");
    private static final int OBJECTS = 400;

    /** For each call what it may answer below 0; of the faults of texts, -100 stands for all. */
    private static final Map<String, Set<Integer>> DUE = new LinkedHashMap<>();

    private final Map<String, Set<Integer>> seen = new LinkedHashMap<>();
    private long seed = 20261119;

    private AnswersTest() {
    }

    public static void main(String[] arguments) {
        whatMayBeAnswered();
        eachCallAnswersItsErrorsAlone();
        checks.end();
    }

    private static void eachCallAnswersItsErrorsAlone() {
        AnswersTest test = new AnswersTest();
        for (int object = 0; object < OBJECTS; object++) {
            BowedPlate plate = new BowedPlate();
            if (object % 20 == 0) {
                test.fillText(plate);
            }
            test.run(plate);
        }
        for (Map.Entry<String, Set<Integer>> row : DUE.entrySet()) {
            Set<Integer> got = test.seen.getOrDefault(row.getKey(), Set.of());
            checks.holds(row.getKey() + " may answer " + row.getValue() + " and answered " + got,
                    row.getValue().equals(got));
        }
        checks.due("calls", DUE.size(), test.seen.size());
    }

    private static void may(String call, Integer... answers) {
        DUE.put(call, new TreeSet<>(Set.of(answers)));
    }

    private static void whatMayBeAnswered() {
        may("strew", -1, -2);
        may("sweep", -2);
        may("clamp", -1, -3, -5);
        may("unclamp", -1);
        may("set", -2, -5);
        may("bow", -1, -2, -3);
        may("bowAll", -3, -100);
        may("strike", -1, -5);
        may("play", -2, -5);
        may("type", -3);
        may("clearText");
        may("undo", -5);
        may("keep");
        may("restore", -5);
        may("place", -1, -2, -5);
        may("way", -1, -2);
        may("swing", -1);
        may("sounds", -1, -5);
        may("why", -1);
        may("possible", -2, -5);
        may("waiting", -2, -5);
        may("sand", -1);
        may("count", -2, -5);
        may("clampAt", -1);
    }

    private void note(String call, int answer) {
        boolean isFault = call.equals("bowAll") && answer <= -100 && answer >= -160;
        Set<Integer> answers = seen.computeIfAbsent(call, name -> new TreeSet<>());
        if (answer < 0) {
            answers.add(isFault ? -100 : answer);
        }
        checks.holds(call + " never answers " + answer, answer >= 0 || isFault || answer >= -5 && answer != -4);
    }

    private int below(int bound) {
        seed = seed * 6364136223846793005L + 1442695040888963407L;
        return (int) ((seed >>> 33) % bound);
    }

    /** Mostly a number from 0 to one behind the last, sometimes one off it. */
    private int number(int last) {
        int kind = below(30);
        return kind == 0 ? -1 : kind == 1 ? Integer.MIN_VALUE : kind == 2 ? Integer.MAX_VALUE : below(last + 2);
    }

    private void fillText(BowedPlate plate) {
        for (int length = 1; length <= 61; length++) {
            note("type", plate.type('r'));
        }
    }

    /** At most 31 calls a round, so that an object never makes more than 512. */
    private void run(BowedPlate plate) {
        note("undo", plate.undo());
        for (int round = 0; round < 14; round++) {
            changes(plate);
            texts(plate);
            note("undo", round % 3 == 0 ? plate.undo() : plate.count(15));
            note("keep", round % 8 == 7 ? plate.keep() : 0);
            note("restore", round % 5 == 4 ? plate.restore() : 0);
            questions(plate);
        }
    }

    private void changes(BowedPlate plate) {
        note("strew", plate.strew(number(11), number(11), number(99)));
        note("sweep", below(4) == 0 ? plate.sweep(number(99)) : 0);
        note("clamp", plate.clamp(number(11), number(1)));
        note("clamp", plate.clamp(number(1), number(1)));
        note("unclamp", below(3) == 0 ? plate.unclamp(number(3)) : 0);
        int which = number(3);
        note("set", plate.set(which, below(3) == 0 ? plate.count(11) : number(201)));
        note("bow", plate.bow(number(3), number(11), number(20)));
        note("bow", plate.bow(number(3), number(11), number(20)));
        note("strike", below(4) == 0 ? plate.strike(number(3)) : 0);
        note("play", below(5) == 0 ? plate.play(number(16)) : 0);
    }

    private void texts(BowedPlate plate) {
        note("clearText", below(9) == 0 ? plate.clearText() : 0);
        if (plate.count(16) > 0 && below(2) == 0) {
            note("type", plate.type(','));
        }
        note("type", plate.type("trbl".charAt(below(4))));
        note("type", plate.type((char) ('0' + below(10))));
        if (below(30) == 0) {
            note("type", plate.type((char) below(65536)));
        }
        note("bowAll", plate.bowAll());
    }

    private void questions(BowedPlate plate) {
        note("place", plate.place(number(11), number(11), number(3)));
        note("way", plate.way(number(47), number(7)));
        note("swing", plate.swing(number(47), number(11), number(11)));
        note("sounds", plate.sounds(number(3), number(11)));
        note("why", plate.why(number(47), number(3), number(11)));
        note("possible", plate.possible(number(6)));
        note("waiting", plate.waiting(number(5), number(3)));
        note("sand", plate.sand(below(2) == 0, number(11)));
        note("count", plate.count(number(16)));
        note("clampAt", plate.clampAt(number(3), below(2) == 0));
    }
}
