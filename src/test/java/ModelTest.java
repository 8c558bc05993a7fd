/**
 * Long runs of calls on the class and on its model: every answer is the same. The calls come from
 * a fixed row of numbers, so that each run of the test makes the same calls.
 */
public final class ModelTest {
    private static final int OBJECTS = 250;
    private static final int CALLS = 512;
    private static final String TYPED = "trbl0123456789x,";

    private static final Checks checks = new Checks("ModelTest");

    private final BowedPlate plate = new BowedPlate();
    private final PlateModel model = new PlateModel();
    private long seed;
    private String pending = "";

    private ModelTest(long seed) {
        this.seed = seed;
    }

    public static void main(String[] arguments) {
        for (int object = 0; object < OBJECTS; object++) {
            ModelTest test = new ModelTest(1000 + 77 * object);
            for (int call = 0; call < CALLS; call++) {
                test.call("object " + object + ", call " + call + ": ");
            }
        }
        figuresOfAllWays();
        possibleWaysOfAllClamps();
        checks.end();
    }

    private static void figuresOfAllWays() {
        for (int still = 0; still <= 60; still++) {
            BowedPlate plate = new BowedPlate();
            PlateModel model = new PlateModel();
            checks.due("set(2, " + still + ")", model.set(2, still), plate.set(2, still));
            for (int way = 0; way < 48; way++) {
                for (int what = 4; what <= 6; what++) {
                    checks.due("up to " + still + ": way(" + way + ", " + what + ")",
                            model.way(way, what), plate.way(way, what));
                }
            }
        }
    }

    private static void possibleWaysOfAllClamps() {
        for (int place = 0; place < 144; place++) {
            BowedPlate plate = new BowedPlate();
            PlateModel model = new PlateModel();
            String title = "clamp at place " + place + ": ";
            checks.due(title + "clamp", model.clamp(place % 12, place / 12), plate.clamp(place % 12, place / 12));
            checks.due(title + "count(9)", model.count(9), plate.count(9));
            for (int rank = 0; rank <= model.count(9); rank++) {
                checks.due(title + "possible(" + rank + ")", model.possible(rank), plate.possible(rank));
            }
            for (int bow = 0; bow < 48; bow++) {
                checks.due(title + "sounds of bow " + bow,
                        model.sounds(bow / 12, bow % 12), plate.sounds(bow / 12, bow % 12));
            }
        }
    }

    private int below(int bound) {
        seed = seed * 6364136223846793005L + 1442695040888963407L;
        return (int) ((seed >>> 33) % bound);
    }

    /** Mostly a number of the range; sometimes one just off it or far away. */
    private int number(int least, int most) {
        switch (below(40)) {
            case 0:
                return least - 1;
            case 1:
                return most + 1;
            case 2:
                return below(2) == 0 ? Integer.MIN_VALUE : Integer.MAX_VALUE;
            case 3:
                return least;
            case 4:
                return most;
            default:
                return least + below(most - least + 1);
        }
    }

    private char character() {
        if (pending.isEmpty() && below(3) > 0) {
            pending = bowing() + (below(3) > 0 ? "," + bowing() : "");
        }
        if (pending.isEmpty() || below(60) == 0) {
            return below(12) == 0 ? (char) below(65536) : TYPED.charAt(below(TYPED.length()));
        }
        char first = pending.charAt(0);
        pending = pending.substring(1);
        return first;
    }

    private String bowing() {
        String start = TYPED.charAt(below(4)) + "" + below(12 + below(2));
        return below(2) == 0 ? start : start + "x" + (1 + below(20 + below(2)));
    }

    private void call(String title) {
        int kind = below(100);
        if (kind < 45) {
            change(title, kind);
        } else if (kind < 60) {
            typeOrBowAll(title);
        } else {
            ask(title, kind);
        }
    }

    private void change(String title, int kind) {
        int a = number(0, 11);
        int b = number(0, 11);
        int side = number(0, 3);
        if (kind < 5) {
            int grains = number(1, 99);
            checks.due(title + "strew", model.strew(a, b, grains), plate.strew(a, b, grains));
        } else if (kind < 6) {
            int grains = number(0, 99);
            checks.due(title + "sweep", model.sweep(grains), plate.sweep(grains));
        } else if (kind < 9) {
            checks.due(title + "clamp", model.clamp(a, b), plate.clamp(a, b));
        } else if (kind < 12) {
            int clamp = number(0, 3);
            checks.due(title + "unclamp", model.unclamp(clamp), plate.unclamp(clamp));
        } else if (kind < 16) {
            setting(title, side);
        } else if (kind < 26) {
            int strokes = number(1, 20);
            checks.due(title + "bow", model.bow(side, a, strokes), plate.bow(side, a, strokes));
        } else if (kind < 28) {
            checks.due(title + "strike", model.strike(side), plate.strike(side));
        } else if (kind < 37) {
            int bowings = below(3) > 0 ? 1 : number(1, 16);
            checks.due(title + "play", model.play(bowings), plate.play(bowings));
        } else if (kind < 41) {
            checks.due(title + "undo", model.undo(), plate.undo());
        } else if (kind < 43) {
            checks.due(title + "keep", model.keep(), plate.keep());
        } else {
            checks.due(title + "restore", model.restore(), plate.restore());
        }
    }

    private void setting(String title, int which) {
        int value = which == 1 ? number(1, 150) : which == 3 ? number(50, 201) : number(0, 60);
        checks.due(title + "set", model.set(which, value), plate.set(which, value));
    }

    private void typeOrBowAll(String title) {
        int kind = below(14);
        if (kind < 11) {
            char character = character();
            checks.due(title + "type", model.type(character), plate.type(character));
        } else if (kind < 13 || !pending.isEmpty()) {
            checks.due(title + "bowAll", model.bowAll(), plate.bowAll());
        } else {
            checks.due(title + "clearText", model.clearText(), plate.clearText());
        }
    }

    private void ask(String title, int kind) {
        int a = number(0, 11);
        int b = number(0, 11);
        int side = number(0, 3);
        int way = number(0, 47);
        boolean isRow = below(2) == 0;
        if (kind < 67) {
            int what = number(0, 3);
            checks.due(title + "place", model.place(a, b, what), plate.place(a, b, what));
        } else if (kind < 72) {
            int what = number(0, 7);
            checks.due(title + "way", model.way(way, what), plate.way(way, what));
        } else if (kind < 75) {
            checks.due(title + "swing", model.swing(way, a, b), plate.swing(way, a, b));
        } else if (kind < 78) {
            checks.due(title + "sounds", model.sounds(side, a), plate.sounds(side, a));
        } else if (kind < 82) {
            checks.due(title + "why", model.why(way, side, a), plate.why(way, side, a));
        } else if (kind < 84) {
            int rank = number(0, 6);
            checks.due(title + "possible", model.possible(rank), plate.possible(rank));
        } else if (kind < 88) {
            int place = number(0, 5);
            int what = number(0, 3);
            checks.due(title + "waiting", model.waiting(place, what), plate.waiting(place, what));
        } else if (kind < 91) {
            checks.due(title + "sand", model.sand(isRow, a), plate.sand(isRow, a));
        } else if (kind < 98) {
            int what = number(0, 16);
            checks.due(title + "count", model.count(what), plate.count(what));
        } else {
            checks.due(title + "clampAt", model.clampAt(side, isRow), plate.clampAt(side, isRow));
        }
    }
}
