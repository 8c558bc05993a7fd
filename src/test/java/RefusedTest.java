import java.util.function.IntFunction;

/**
 * Terms, ERRORS: "A call that returns an error or NONE changes nothing", and "the order of the
 * @return line is the order of the checks": for each promise each call that is refused, its answer,
 * and that nothing changed by it, neither what is told, nor what undo(), restore() and the text give.
 */
public final class RefusedTest {
    private static final Checks checks = new Checks("RefusedTest");

    private static final int[] OFF_THE_LINES = {-1, 12, Integer.MIN_VALUE, Integer.MAX_VALUE};
    private static final int[] OFF_THE_SIDES = {-1, 4, Integer.MIN_VALUE, Integer.MAX_VALUE};
    private static final int[] OFF_THE_WAYS = {-1, 48, Integer.MIN_VALUE, Integer.MAX_VALUE};

    private static final Setting FRESH = new Setting("fresh object", Run.of());

    /** Two clamps, a way that sounded, three bowings that wait, a snapshot, a text, two states. */
    private static final Setting SOME = new Setting("some of each", Run.of(
            plate -> plate.clamp(5, 6), plate -> plate.clamp(6, 5),
            plate -> plate.bow(0, 0, 2), plate -> plate.play(1), BowedPlate::keep,
            BowedPlate::undo, BowedPlate::undo,
            plate -> plate.strew(3, 4, 9), plate -> plate.set(2, 7), plate -> plate.bow(0, 0, 3),
            plate -> plate.play(1), plate -> plate.bow(1, 4, 5), plate -> plate.bow(3, 11, 6),
            plate -> plate.bow(1, 2, 7), BowedPlate::undo, plate -> plate.bow(1, 0, 20))
            .typed("t3x4,l11"));

    /** Four clamps, sixteen bowings, a text of 60 characters without fault, four states, a snapshot. */
    private static final Setting ALL_FULL = new Setting("all full", Run.of(
            plate -> plate.strew(0, 0, 99), BowedPlate::keep,
            plate -> plate.bow(0, 0, 4), plate -> plate.play(1),
            plate -> plate.clamp(5, 6), plate -> plate.clamp(6, 5), plate -> plate.clamp(4, 6),
            plate -> plate.clamp(6, 4))
            .times(8, plate -> plate.bow(2, 11, 3))
            .times(8, plate -> plate.bow(1, 7, 1))
            .typed("t10x10,t10x10,t10x10,t10x10,t10x10,t10x10,t10x10,t10x10,t1x9"));

    /** A run with what can be seen behind it. */
    private static final class Setting {
        private final String name;
        private final Run run;
        private final Aftermath aftermath;

        Setting(String name, Run run) {
            this.name = name;
            this.run = run;
            aftermath = new Aftermath(run);
        }

        void refuses(String call, int due, Run.Call refused) {
            String title = name + ": " + call;
            checks.due(title, due, run.answer(refused));
            aftermath.isSeenBehind(run.then(refused), title, checks);
        }

        void refuses(String call, int due, int[] values, IntFunction<Run.Call> refused) {
            for (int value : values) {
                refuses(call.replace("#", Integer.toString(value)), due, refused.apply(value));
            }
        }
    }

    private RefusedTest() {
    }

    public static void main(String[] arguments) {
        theSettingsAreAsTold();
        for (Setting setting : new Setting[] {FRESH, SOME, ALL_FULL}) {
            sandClampsAndSettings(setting);
            pieces(setting);
            placesAndWays(setting);
            bowsAndTheRest(setting);
        }
        fullClamps();
        fullPiece();
        fullText();
        textsWithFaults();
        nothingThere();
        theSameAgain();
        checks.end();
    }

    private static void theSettingsAreAsTold() {
        int[] whats = {4, 5, 8, 15, 16};
        int[][] due = {{0, 0, -5, 0, 0}, {2, 3, 0, 4, 8}, {4, 16, 0, 4, 60}};
        Setting[] settings = {FRESH, SOME, ALL_FULL};
        for (int index = 0; index < settings.length; index++) {
            for (int number = 0; number < whats.length; number++) {
                int what = whats[number];
                checks.due(settings[index].name + ": count(" + what + ")", due[index][number],
                        settings[index].run.answer(plate -> plate.count(what)));
            }
        }
    }

    private static void sandClampsAndSettings(Setting setting) {
        setting.refuses("strew(#, 5, 1)", -1, OFF_THE_LINES, x -> plate -> plate.strew(x, 5, 1));
        setting.refuses("strew(5, #, 1)", -1, OFF_THE_LINES, y -> plate -> plate.strew(5, y, 1));
        setting.refuses("strew(0, 0, #)", -2, new int[] {0, -1, 100, Integer.MIN_VALUE, Integer.MAX_VALUE},
                grains -> plate -> plate.strew(0, 0, grains));
        setting.refuses("strew(#, 0, 0): the place first", -1, OFF_THE_LINES, x -> plate -> plate.strew(x, 0, 0));
        setting.refuses("strew(0, #, 100): the place first", -1, OFF_THE_LINES,
                y -> plate -> plate.strew(0, y, 100));
        setting.refuses("sweep(#)", -2, new int[] {-1, 100, Integer.MIN_VALUE, Integer.MAX_VALUE},
                grains -> plate -> plate.sweep(grains));
        setting.refuses("clamp(#, 5)", -1, OFF_THE_LINES, x -> plate -> plate.clamp(x, 5));
        setting.refuses("clamp(5, #)", -1, OFF_THE_LINES, y -> plate -> plate.clamp(5, y));
        setting.refuses("unclamp(#)", -1, new int[] {-1, 4, Integer.MIN_VALUE, Integer.MAX_VALUE},
                clamp -> plate -> plate.unclamp(clamp));
        setting.refuses("set(#, 55)", -2, OFF_THE_SIDES, which -> plate -> plate.set(which, 55));
        setting.refuses("set(0, #)", -2, new int[] {-1, 61, Integer.MIN_VALUE, Integer.MAX_VALUE},
                value -> plate -> plate.set(0, value));
        setting.refuses("set(1, #)", -2, new int[] {0, 151, Integer.MIN_VALUE, Integer.MAX_VALUE},
                value -> plate -> plate.set(1, value));
        setting.refuses("set(2, #)", -2, new int[] {-1, 61, Integer.MIN_VALUE, Integer.MAX_VALUE},
                value -> plate -> plate.set(2, value));
        setting.refuses("set(3, #)", -2, new int[] {49, 202, Integer.MIN_VALUE, Integer.MAX_VALUE},
                value -> plate -> plate.set(3, value));
    }

    private static void pieces(Setting setting) {
        setting.refuses("bow(#, 5, 1)", -1, OFF_THE_SIDES, side -> plate -> plate.bow(side, 5, 1));
        setting.refuses("bow(1, #, 1)", -1, OFF_THE_LINES, along -> plate -> plate.bow(1, along, 1));
        setting.refuses("bow(1, 5, #)", -2, new int[] {0, -1, 21, Integer.MIN_VALUE, Integer.MAX_VALUE},
                strokes -> plate -> plate.bow(1, 5, strokes));
        setting.refuses("bow(#, 5, 0): the side first", -1, OFF_THE_SIDES, side -> plate -> plate.bow(side, 5, 0));
        setting.refuses("bow(1, #, 21): the place first", -1, OFF_THE_LINES,
                along -> plate -> plate.bow(1, along, 21));
        setting.refuses("strike(#)", -1, OFF_THE_SIDES, side -> plate -> plate.strike(side));
        setting.refuses("play(#)", -2, new int[] {0, -1, 17, Integer.MIN_VALUE, Integer.MAX_VALUE},
                bowings -> plate -> plate.play(bowings));
    }

    private static void placesAndWays(Setting setting) {
        setting.refuses("place(#, 5, 0)", -1, OFF_THE_LINES, x -> plate -> plate.place(x, 5, 0));
        setting.refuses("place(5, #, 0)", -1, OFF_THE_LINES, y -> plate -> plate.place(5, y, 0));
        setting.refuses("place(5, 5, #)", -2, OFF_THE_SIDES, what -> plate -> plate.place(5, 5, what));
        setting.refuses("place(#, 5, 4): the place first", -1, OFF_THE_LINES, x -> plate -> plate.place(x, 5, 4));
        setting.refuses("place(5, #, -1): the place first", -1, OFF_THE_LINES, y -> plate -> plate.place(5, y, -1));
        for (int number = 1; number < 4; number++) {
            int what = number;
            setting.refuses("place(#, 0, " + what + "): ahead of NONE", -1, OFF_THE_LINES,
                    x -> plate -> plate.place(x, 0, what));
        }
        setting.refuses("way(#, 0)", -1, OFF_THE_WAYS, way -> plate -> plate.way(way, 0));
        setting.refuses("way(47, #)", -2, new int[] {-1, 8, Integer.MIN_VALUE, Integer.MAX_VALUE},
                what -> plate -> plate.way(47, what));
        setting.refuses("way(#, 8): the way first", -1, OFF_THE_WAYS, way -> plate -> plate.way(way, 8));
        setting.refuses("way(#, -1): the way first", -1, OFF_THE_WAYS, way -> plate -> plate.way(way, -1));
        setting.refuses("swing(#, 5, 5)", -1, OFF_THE_WAYS, way -> plate -> plate.swing(way, 5, 5));
        setting.refuses("swing(5, #, 5)", -1, OFF_THE_LINES, x -> plate -> plate.swing(5, x, 5));
        setting.refuses("swing(5, 5, #)", -1, OFF_THE_LINES, y -> plate -> plate.swing(5, 5, y));
    }

    private static void bowsAndTheRest(Setting setting) {
        setting.refuses("sounds(#, 5)", -1, OFF_THE_SIDES, side -> plate -> plate.sounds(side, 5));
        setting.refuses("sounds(1, #)", -1, OFF_THE_LINES, along -> plate -> plate.sounds(1, along));
        setting.refuses("why(#, 1, 5)", -1, OFF_THE_WAYS, way -> plate -> plate.why(way, 1, 5));
        setting.refuses("why(5, #, 5)", -1, OFF_THE_SIDES, side -> plate -> plate.why(5, side, 5));
        setting.refuses("why(5, 1, #)", -1, OFF_THE_LINES, along -> plate -> plate.why(5, 1, along));
        setting.refuses("possible(#)", -2, new int[] {-1, Integer.MIN_VALUE}, rank -> plate -> plate.possible(rank));
        setting.refuses("possible(#)", -5, new int[] {48, Integer.MAX_VALUE}, rank -> plate -> plate.possible(rank));
        setting.refuses("waiting(#, 0)", -2, new int[] {-1, Integer.MIN_VALUE},
                place -> plate -> plate.waiting(place, 0));
        setting.refuses("waiting(0, #)", -2, OFF_THE_SIDES, what -> plate -> plate.waiting(0, what));
        setting.refuses("waiting(16, #): what ahead of NONE", -2, OFF_THE_SIDES,
                what -> plate -> plate.waiting(16, what));
        setting.refuses("waiting(#, 3)", -5, new int[] {16, Integer.MAX_VALUE},
                place -> plate -> plate.waiting(place, 3));
        setting.refuses("sand(true, #)", -1, OFF_THE_LINES, line -> plate -> plate.sand(true, line));
        setting.refuses("sand(false, #)", -1, OFF_THE_LINES, line -> plate -> plate.sand(false, line));
        setting.refuses("count(#)", -2, new int[] {-1, 17, Integer.MIN_VALUE, Integer.MAX_VALUE},
                what -> plate -> plate.count(what));
        setting.refuses("clampAt(#, true)", -1, OFF_THE_SIDES, clamp -> plate -> plate.clampAt(clamp, true));
        setting.refuses("clampAt(#, false)", -1, OFF_THE_SIDES, clamp -> plate -> plate.clampAt(clamp, false));
    }

    /** "UNKNOWN; FULL if there are 4; NONE if there is one at this place". */
    private static void fullClamps() {
        ALL_FULL.refuses("clamp(#, 5): ahead of FULL", -1, OFF_THE_LINES, x -> plate -> plate.clamp(x, 5));
        ALL_FULL.refuses("clamp(0, 0)", -3, plate -> plate.clamp(0, 0));
        ALL_FULL.refuses("clamp(5, 6): FULL ahead of NONE", -3, plate -> plate.clamp(5, 6));
        ALL_FULL.refuses("clamp(6, 4): FULL ahead of NONE", -3, plate -> plate.clamp(6, 4));
    }

    /** "UNKNOWN (side or along); BAD_VALUE; FULL if 16 wait". */
    private static void fullPiece() {
        ALL_FULL.refuses("bow(0, 0, 1)", -3, plate -> plate.bow(0, 0, 1));
        ALL_FULL.refuses("bow(3, 11, 20)", -3, plate -> plate.bow(3, 11, 20));
        ALL_FULL.refuses("bow(0, 0, 0): BAD_VALUE ahead of FULL", -2, plate -> plate.bow(0, 0, 0));
        ALL_FULL.refuses("bow(0, 0, 21): BAD_VALUE ahead of FULL", -2, plate -> plate.bow(0, 0, 21));
        ALL_FULL.refuses("bow(4, 0, 1): UNKNOWN ahead of FULL", -1, plate -> plate.bow(4, 0, 1));
        ALL_FULL.refuses("bow(0, 12, 1): UNKNOWN ahead of FULL", -1, plate -> plate.bow(0, 12, 1));
        ALL_FULL.refuses("bowAll() of 9 behind 16", -3, BowedPlate::bowAll);
        Run fifteen = Run.of().times(15, plate -> plate.bow(1, 1, 1));
        new Setting("15 wait", fifteen.typed("t1,t2")).refuses("bowAll() of 2", -3, BowedPlate::bowAll);
        new Setting("none waits", Run.of().typed("t1,t1,t1,t1,t1,t1,t1,t1,t1,t1,t1,t1,t1,t1,t1,t1,t1"))
                .refuses("bowAll() of 17", -3, BowedPlate::bowAll);
    }

    private static void fullText() {
        for (char character : new char[] {'0', 'x', ',', 't', 0, 255, 65535}) {
            ALL_FULL.refuses("type((char) " + (int) character + ")", -3, plate -> plate.type(character));
        }
    }

    /** "-100 minus the fault of the text if it has one (which is an error); FULL". */
    private static void textsWithFaults() {
        FRESH.refuses("bowAll() of the empty text", -100, BowedPlate::bowAll);
        new Setting("a fault in the last bowing", Run.of().typed("t1,r2x3,b12"))
                .refuses("bowAll()", -110, BowedPlate::bowAll);
        new Setting("a text that ends too early", SOME.run.typed("x"))
                .refuses("bowAll()", -109, BowedPlate::bowAll);
        Run full = Run.of().times(16, plate -> plate.bow(1, 1, 1));
        new Setting("16 wait, a fault", full.typed("t1,q")).refuses("bowAll(): ahead of FULL", -103, BowedPlate::bowAll);
        new Setting("16 wait, no text", full).refuses("bowAll(): ahead of FULL", -100, BowedPlate::bowAll);
    }

    /** What answers NONE as there is no such thing. */
    private static void nothingThere() {
        FRESH.refuses("undo()", -5, BowedPlate::undo);
        FRESH.refuses("restore()", -5, BowedPlate::restore);
        FRESH.refuses("unclamp(0)", -1, plate -> plate.unclamp(0));
        FRESH.refuses("clampAt(0, true)", -1, plate -> plate.clampAt(0, true));
        FRESH.refuses("strike(#)", -5, new int[] {0, 1, 2, 3}, side -> plate -> plate.strike(side));
        FRESH.refuses("play(#)", -5, new int[] {1, 16}, bowings -> plate -> plate.play(bowings));
        FRESH.refuses("place(0, 0, #)", -5, new int[] {1, 2, 3}, what -> plate -> plate.place(0, 0, what));
        FRESH.refuses("waiting(0, #)", -5, new int[] {0, 1, 2, 3}, what -> plate -> plate.waiting(0, what));
        FRESH.refuses("count(8)", -5, plate -> plate.count(8));
        SOME.refuses("unclamp(2)", -1, plate -> plate.unclamp(2));
        SOME.refuses("clampAt(2, false)", -1, plate -> plate.clampAt(2, false));
        SOME.refuses("strike(#)", -5, new int[] {0, 2}, side -> plate -> plate.strike(side));
        SOME.refuses("waiting(3, #)", -5, new int[] {0, 1, 2, 3}, what -> plate -> plate.waiting(3, what));
        SOME.refuses("place(0, 0, 3)", -5, plate -> plate.place(0, 0, 3));
        Setting undone = new Setting("all undone", SOME.run.times(4, BowedPlate::undo));
        undone.refuses("undo()", -5, BowedPlate::undo);
        Setting mute = new Setting("a clamp at the bow", Run.of(plate -> plate.clamp(0, 0), plate -> plate.bow(0, 0, 1)));
        mute.refuses("sounds(0, 0)", -5, plate -> plate.sounds(0, 0));
        mute.refuses("waiting(0, 3)", -5, plate -> plate.waiting(0, 3));
    }

    /** "NONE if there is one at this place", "NONE if it is so already". */
    private static void theSameAgain() {
        SOME.refuses("clamp(5, 6)", -5, plate -> plate.clamp(5, 6));
        SOME.refuses("clamp(6, 5)", -5, plate -> plate.clamp(6, 5));
        SOME.refuses("set(2, 7)", -5, plate -> plate.set(2, 7));
        FRESH.refuses("set(0, 20)", -5, plate -> plate.set(0, 20));
        FRESH.refuses("set(1, 60)", -5, plate -> plate.set(1, 60));
        FRESH.refuses("set(2, 15)", -5, plate -> plate.set(2, 15));
        FRESH.refuses("set(3, 150)", -5, plate -> plate.set(3, 150));
    }
}
