import java.util.ArrayList;
import java.util.List;

/** The questions that together tell all of an object's state that can be seen at once. */
final class Questions {
    static final List<String> NAMES = new ArrayList<>();
    static final List<Run.Call> CALLS = new ArrayList<>();

    private Questions() {
    }

    static {
        ofNumbers();
        ofPlaces();
        ofWays();
        ofPieces();
    }

    private static void add(String name, Run.Call call) {
        NAMES.add(name);
        CALLS.add(call);
    }

    private static void ofNumbers() {
        for (int number = 0; number < 17; number++) {
            int what = number;
            add("count(" + what + ")", plate -> plate.count(what));
        }
        for (int number = 0; number < 5; number++) {
            int clamp = number;
            add("clampAt(" + clamp + ", false)", plate -> plate.clampAt(clamp, false));
            add("clampAt(" + clamp + ", true)", plate -> plate.clampAt(clamp, true));
        }
    }

    private static void ofPlaces() {
        for (int place = 0; place < 144; place++) {
            int x = place % 12;
            int y = place / 12;
            add("place(" + x + ", " + y + ", 0)", plate -> plate.place(x, y, 0));
            add("place(" + x + ", " + y + ", 3)", plate -> plate.place(x, y, 3));
        }
        for (int number = 0; number < 12; number++) {
            int line = number;
            add("place(" + line + ", 3, 1)", plate -> plate.place(line, 3, 1));
            add("place(" + line + ", 3, 2)", plate -> plate.place(line, 3, 2));
            add("sand(true, " + line + ")", plate -> plate.sand(true, line));
            add("sand(false, " + line + ")", plate -> plate.sand(false, line));
        }
    }

    private static void ofWays() {
        for (int number = 0; number < 48; number++) {
            int way = number;
            for (int what = 4; what < 8; what++) {
                int which = what;
                add("way(" + way + ", " + which + ")", plate -> plate.way(way, which));
            }
            int side = way / 12;
            int along = way % 12;
            add("sounds(" + side + ", " + along + ")", plate -> plate.sounds(side, along));
            add("why(" + way + ", 1, 4)", plate -> plate.why(way, 1, 4));
        }
        for (int number = 0; number < 6; number++) {
            int rank = number;
            add("possible(" + rank + ")", plate -> plate.possible(rank));
        }
    }

    private static void ofPieces() {
        for (int number = 0; number < 17 * 4; number++) {
            int place = number / 4;
            int what = number % 4;
            add("waiting(" + place + ", " + what + ")", plate -> plate.waiting(place, what));
        }
    }

    /** Checks that the same is told behind both. */
    static void same(Checks checks, String title, Run want, Run got) {
        int[] due = want.told();
        int[] told = got.told();
        for (int question = 0; question < due.length; question++) {
            checks.due(title + ": " + NAMES.get(question), due[question], told[question]);
        }
    }

    /** As same, but for how many states the history has. */
    static void sameButForHistory(Checks checks, String title, Run want, Run got) {
        int[] due = want.told();
        int[] told = got.told();
        for (int question = 0; question < due.length; question++) {
            if (!NAMES.get(question).equals("count(15)")) {
                checks.due(title + ": " + NAMES.get(question), due[question], told[question]);
            }
        }
    }
}
