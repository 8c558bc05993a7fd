/** Terms, PIECES: each sentence that names an edge, by itself. */
public final class PieceEdgesTest {
    private static final Checks checks = new Checks("PieceEdgesTest");

    private PieceEdgesTest() {
    }

    public static void main(String[] arguments) {
        atMostSixteenBowingsWait();
        roomAgainInAFullPiece();
        sixteenByATextToo();
        eachHasASideAPlaceAndStrokes();
        oneToTwentyStrokes();
        soManyStrokesAsOneEach();
        playedBowingsAreTakenOff();
        asManyAsWait();
        theFirstOnesArePlayedInTheirOrder();
        nothingHappensByAMuteBowing();
        muteOnesAmongOthers();
        allMute();
        lastWayIsKept();
        noneSoundedAtFirst();
        theWayOfNowSounds();
        strikeFirstLastAndAll();
        strikeNone();
        waitingEndsAtTheLastOne();
        checks.end();
    }

    private static Run bowings(int bowings) {
        return Run.of().times(bowings, plate -> plate.bow(0, 0, 1));
    }

    /** "At most 16 bowings wait", "FULL if 16 wait". */
    private static void atMostSixteenBowingsWait() {
        BowedPlate plate = new BowedPlate();
        checks.due("count(5) at first", 0, plate.count(5));
        for (int bowing = 0; bowing < 16; bowing++) {
            checks.due("bow " + bowing, bowing + 1, plate.bow(bowing % 4, 11 - bowing % 12, 20 - bowing));
        }
        checks.due("a seventeenth one", -3, plate.bow(0, 0, 1));
        checks.due("count(5)", 16, plate.count(5));
        checks.due("a seventeenth one does not wait", -5, plate.waiting(16, 0));
        for (int bowing = 0; bowing < 16; bowing++) {
            checks.due("side of " + bowing, bowing % 4, plate.waiting(bowing, 0));
            checks.due("place of " + bowing, 11 - bowing % 12, plate.waiting(bowing, 1));
            checks.due("strokes of " + bowing, 20 - bowing, plate.waiting(bowing, 2));
        }
    }

    /** What comes behind the full piece: room as soon as one is played, struck out or undone. */
    private static void roomAgainInAFullPiece() {
        Run full = bowings(15).then(plate -> plate.bow(3, 3, 3));
        Run.Call[] makeRoom = {plate -> plate.play(1), plate -> plate.strike(3), BowedPlate::undo};
        for (int index = 0; index < makeRoom.length; index++) {
            BowedPlate plate = full.plate();
            checks.due("full", -3, plate.bow(1, 1, 1));
            makeRoom[index].on(plate);
            checks.due("room " + index, 16, plate.bow(1, 9, 2));
            checks.due("the new one is the last", 9, plate.waiting(15, 1));
            checks.due("full again", -3, plate.bow(1, 1, 1));
        }
        BowedPlate plate = full.plate();
        checks.due("play(16) of 16", 16, plate.play(16));
        checks.due("count(5)", 0, plate.count(5));
        checks.due("room for all again", 1, plate.bow(2, 2, 2));
        checks.due("waiting(0, 0)", 2, plate.waiting(0, 0));
        checks.due("waiting(1, 0)", -5, plate.waiting(1, 0));
    }

    /** "FULL if more than 16 would wait": 16 exactly, and 17, by each number that waits. */
    private static void sixteenByATextToo() {
        for (int wait = 0; wait <= 16; wait++) {
            for (int more = Math.max(1, 15 - wait); more <= 18 - wait && more <= 20; more++) {
                Run run = bowings(wait).typed("b4" + ",b4".repeat(more - 1));
                boolean isRoom = wait + more <= 16;
                String title = wait + " wait, " + more + " more: ";
                BowedPlate plate = run.plate();
                checks.due(title + "bowAll()", isRoom ? more : -3, plate.bowAll());
                checks.due(title + "count(5)", isRoom ? wait + more : wait, plate.count(5));
                checks.due(title + "the last one", wait + (isRoom ? more : 0) == 0 ? -5 : isRoom ? 2 : 0,
                        plate.waiting(Math.max(0, wait + (isRoom ? more : 0) - 1), 0));
                checks.due(title + "one beyond", -5, plate.waiting(wait + (isRoom ? more : 0), 0));
            }
        }
    }

    /** "each has a side, a place along it and a number of strokes (1 to 20)": all of them. */
    private static void eachHasASideAPlaceAndStrokes() {
        for (int side = 0; side < 4; side++) {
            for (int along = 0; along < 12; along++) {
                BowedPlate plate = new BowedPlate();
                int strokes = 1 + (5 * side + along) % 20;
                checks.due("bow(" + side + ", " + along + ", " + strokes + ")", 1, plate.bow(side, along, strokes));
                checks.due("its side", side, plate.waiting(0, 0));
                checks.due("its place", along, plate.waiting(0, 1));
                checks.due("its strokes", strokes, plate.waiting(0, 2));
                checks.due("its way", plate.sounds(side, along), plate.waiting(0, 3));
            }
        }
    }

    /** "(1 to 20)", "makes so many strokes". */
    private static void oneToTwentyStrokes() {
        for (int strokes = 1; strokes <= 20; strokes++) {
            BowedPlate plate = new BowedPlate();
            plate.bow(0, 0, strokes);
            checks.due("play(1) of " + strokes, 1, plate.play(1));
            checks.due("count(6) of " + strokes, strokes, plate.count(6));
        }
        BowedPlate plate = new BowedPlate();
        checks.due("bow(0, 0, 0)", -2, plate.bow(0, 0, 0));
        checks.due("bow(0, 0, 21)", -2, plate.bow(0, 0, 21));
        checks.due("none waits", 0, plate.count(5));
    }

    private static void soManyStrokesAsOneEach() {
        for (int strokes = 2; strokes <= 16; strokes += 7) {
            int many = strokes;
            BowedPlate one = Run.of(plate -> plate.bow(0, 0, many), plate -> plate.play(1)).plate();
            BowedPlate each = bowings(many).then(plate -> plate.play(16)).plate();
            for (int place = 0; place < 144; place++) {
                checks.due(many + " strokes: place " + place, each.place(place % 12, place / 12, 0),
                        one.place(place % 12, place / 12, 0));
            }
            checks.due(many + " strokes: fallen", each.count(3), one.count(3));
            checks.due(many + " strokes: count(6)", each.count(6), one.count(6));
        }
    }

    /** "When a bowing is played, it is taken off the piece": the first one, others move up. */
    private static void playedBowingsAreTakenOff() {
        for (int played = 1; played <= 16; played++) {
            Run run = Run.of();
            for (int number = 0; number < 16; number++) {
                int bowing = number;
                run = run.then(plate -> plate.bow(bowing % 4, bowing % 12, 1 + bowing));
            }
            BowedPlate plate = run.plate();
            plate.play(played);
            checks.due("count(5) behind play(" + played + ")", 16 - played, plate.count(5));
            checks.due("count(6) behind play(" + played + ")", played * (played + 1) / 2, plate.count(6));
            for (int place = 0; place < 16 - played; place++) {
                int bowing = played + place;
                checks.due("side at " + place + " behind play(" + played + ")", bowing % 4, plate.waiting(place, 0));
                checks.due("place at " + place + " behind play(" + played + ")", bowing % 12, plate.waiting(place, 1));
                checks.due("strokes at " + place + " behind play(" + played + ")", 1 + bowing, plate.waiting(place, 2));
            }
            checks.due("one beyond, behind play(" + played + ")", -5, plate.waiting(16 - played, 2));
        }
    }

    /** "1 to 16: so many, or as many as wait"; "NONE if none waits". */
    private static void asManyAsWait() {
        for (int wait = 0; wait <= 16; wait++) {
            for (int bowings = 1; bowings <= 16; bowings++) {
                BowedPlate plate = bowings(wait).plate();
                int played = Math.min(wait, bowings);
                String title = wait + " wait, play(" + bowings + "): ";
                checks.due(title + "its answer", wait == 0 ? -5 : played, plate.play(bowings));
                checks.due(title + "count(5)", wait - played, plate.count(5));
                checks.due(title + "count(6)", played, plate.count(6));
                checks.due(title + "count(15)", Math.min(4, wait == 0 ? 0 : wait + 1), plate.count(15));
            }
        }
    }

    /** "Plays the first bowings": in their order, by which the last way is the last one's. */
    private static void theFirstOnesArePlayedInTheirOrder() {
        BowedPlate plate = Run.of(p -> p.bow(0, 0, 3), p -> p.bow(1, 0, 4), p -> p.play(2)).plate();
        BowedPlate single = Run.of(p -> p.bow(0, 0, 3), p -> p.play(1), p -> p.bow(1, 0, 4), p -> p.play(1)).plate();
        BowedPlate turned = Run.of(p -> p.bow(1, 0, 4), p -> p.bow(0, 0, 3), p -> p.play(2)).plate();
        int other = 0;
        for (int place = 0; place < 144; place++) {
            int grains = plate.place(place % 12, place / 12, 0);
            checks.due("place " + place, single.place(place % 12, place / 12, 0), grains);
            other += grains == turned.place(place % 12, place / 12, 0) ? 0 : 1;
        }
        checks.holds("turned about it is another figure", other > 0);
        checks.due("the last way", 1, plate.count(8));
        checks.due("the last way turned about", 0, turned.count(8));
    }

    /** "otherwise it is mute (nothing happens)": but it is taken off, and counted. */
    private static void nothingHappensByAMuteBowing() {
        Run before = Run.of(plate -> plate.bow(0, 0, 2), plate -> plate.play(1), plate -> plate.clamp(11, 0),
                plate -> plate.bow(1, 0, 9));
        int[] due = before.told();
        int[] told = before.then(plate -> plate.play(1)).told();
        for (int question = 0; question < due.length; question++) {
            String name = Questions.NAMES.get(question);
            if (name.equals("count(5)") || name.startsWith("waiting(0")) {
                checks.due("taken off: " + name, name.equals("count(5)") ? 0 : -5, told[question]);
            } else if (name.equals("count(7)")) {
                checks.due("counted: " + name, 1, told[question]);
            } else {
                checks.due("nothing happens: " + name, due[question], told[question]);
            }
        }
        checks.due("it was no error: an act of no sound", 0, before.answer(plate -> plate.play(1)));
        BowedPlate plate = before.then(p -> p.play(1)).plate();
        checks.due("undo()", 3, plate.undo());
        checks.due("it waits again", 1, plate.count(5));
        checks.due("it is not counted", 0, plate.count(7));
    }

    /** "how many of them were not mute": the first one, one between, the last one mute. */
    private static void muteOnesAmongOthers() {
        for (int mute = 0; mute < 4; mute++) {
            Run run = Run.of(plate -> plate.clamp(11, 0));
            for (int bowing = 0; bowing < 4; bowing++) {
                run = bowing == mute ? run.then(plate -> plate.bow(1, 0, 5)) : run.then(plate -> plate.bow(0, 0, 2));
            }
            BowedPlate plate = run.plate();
            checks.due("bowing " + mute + " is mute: waiting", -5, plate.waiting(mute, 3));
            checks.due("bowing " + mute + " is mute: play(4)", 3, plate.play(4));
            checks.due("bowing " + mute + " is mute: count(5)", 0, plate.count(5));
            checks.due("bowing " + mute + " is mute: count(6)", 6, plate.count(6));
            checks.due("bowing " + mute + " is mute: count(7)", 1, plate.count(7));
            checks.due("bowing " + mute + " is mute: count(8)", 0, plate.count(8));
        }
    }

    private static void allMute() {
        BowedPlate plate = Run.of(p -> p.clamp(0, 0)).times(16, p -> p.bow(0, 0, 20)).plate();
        checks.due("play(16)", 0, plate.play(16));
        checks.due("count(0)", 720, plate.count(0));
        checks.due("count(5)", 0, plate.count(5));
        checks.due("count(6)", 0, plate.count(6));
        checks.due("count(7)", 16, plate.count(7));
        checks.due("count(8)", -5, plate.count(8));
        checks.due("play(16) again", -5, plate.play(16));
        checks.due("count(7) once more", 16, plate.count(7));
    }

    /** "The way that sounded last is kept (... mute bowings leave it)". */
    private static void lastWayIsKept() {
        BowedPlate plate = new BowedPlate();
        plate.bow(1, 0, 1);
        plate.play(1);
        checks.due("count(8)", 1, plate.count(8));
        plate.sweep(3);
        plate.clamp(11, 0);
        plate.bow(1, 0, 1);
        checks.due("a mute one", 0, plate.play(1));
        checks.due("count(8)", 1, plate.count(8));
        checks.due("place(0, 11, 1), though a clamp holds the way", 200, plate.place(0, 11, 1));
        checks.due("place(4, 4, 2)", 1, plate.place(4, 4, 2));
        plate.bow(0, 0, 1);
        checks.due("one that sounds", 1, plate.play(1));
        checks.due("count(8)", 0, plate.count(8));
    }

    /** "(none at first ...)": NONE for the last way and what is told by it, until one sounds. */
    private static void noneSoundedAtFirst() {
        BowedPlate plate = new BowedPlate();
        checks.due("count(8)", -5, plate.count(8));
        checks.due("place(0, 0, 1)", -5, plate.place(0, 0, 1));
        checks.due("place(0, 0, 2)", -5, plate.place(0, 0, 2));
        plate.clamp(0, 0);
        plate.bow(3, 0, 5);
        checks.due("a mute one", 0, plate.play(1));
        checks.due("count(8)", -5, plate.count(8));
        checks.due("place(0, 0, 1)", -5, plate.place(0, 0, 1));
        checks.due("place(0, 0, 2)", -5, plate.place(0, 0, 2));
        plate.bow(0, 11, 1);
        checks.due("waiting is not sounding", -5, plate.count(8));
        checks.due("one that sounds", 1, plate.play(1));
        checks.due("count(8)", 1, plate.count(8));
        checks.due("place(0, 0, 1): a swing of 0 is a number", 0, plate.place(0, 0, 1));
        checks.due("place(0, 0, 2)", 1, plate.place(0, 0, 2));
        checks.due("place(11, 0, 2)", 0, plate.place(11, 0, 2));
        plate.undo();
        checks.due("count(8) behind undo()", -5, plate.count(8));
    }

    /** "3 for the way that would sound now": with the clamps and settings when it is asked or played. */
    private static void theWayOfNowSounds() {
        BowedPlate plate = new BowedPlate();
        plate.bow(0, 6, 1);
        checks.due("waiting(0, 3)", 0, plate.waiting(0, 3));
        plate.clamp(0, 0);
        checks.due("with a clamp", 1, plate.waiting(0, 3));
        plate.set(1, 110);
        // at (6, 0) the way 1 swings by 109, the way 4 by 182
        checks.due("with more needed at the bow", 4, plate.waiting(0, 3));
        plate.play(1);
        checks.due("count(8)", 4, plate.count(8));
    }

    /** "Strikes all bowings at a side out of the piece". */
    private static void strikeFirstLastAndAll() {
        for (int side = 0; side < 4; side++) {
            int struck = side;
            BowedPlate plate = Run.of().times(16, p -> p.bow(struck, 5, 2)).plate();
            checks.due("strike of all at " + side, 16, plate.strike(side));
            checks.due("none waits", 0, plate.count(5));
            checks.due("strike again", -5, plate.strike(side));
            plate = Run.of(p -> p.bow(struck, 1, 11), p -> p.bow((struck + 1) % 4, 2, 12),
                    p -> p.bow(struck, 3, 13), p -> p.bow(struck, 4, 14), p -> p.bow((struck + 2) % 4, 5, 15),
                    p -> p.bow(struck, 6, 16)).plate();
            checks.due("the first, two in a row, the last", 4, plate.strike(side));
            checks.due("two wait", 2, plate.count(5));
            checks.due("the first of them: strokes", 12, plate.waiting(0, 2));
            checks.due("the second of them: strokes", 15, plate.waiting(1, 2));
            checks.due("the first of them: place", 2, plate.waiting(0, 1));
            checks.due("the second of them: place", 5, plate.waiting(1, 1));
            checks.due("the first of them: side", (side + 1) % 4, plate.waiting(0, 0));
            checks.due("the second of them: side", (side + 2) % 4, plate.waiting(1, 0));
            checks.due("no third", -5, plate.waiting(2, 0));
            checks.due("no strokes were made", 0, plate.count(6));
        }
    }

    /** "NONE if there is none": of an empty piece, and of one with other sides. */
    private static void strikeNone() {
        for (int side = 0; side < 4; side++) {
            int other = (side + 1) % 4;
            BowedPlate plate = new BowedPlate();
            checks.due("strike of an empty piece", -5, plate.strike(side));
            plate.bow(other, 0, 1);
            checks.due("strike of another side", -5, plate.strike(side));
            checks.due("count(5)", 1, plate.count(5));
            checks.due("count(15)", 1, plate.count(15));
            checks.due("strike of the side", 1, plate.strike(other));
        }
    }

    /** "NONE if not so many wait": the last one that waits, and the place behind it. */
    private static void waitingEndsAtTheLastOne() {
        for (int wait = 0; wait <= 16; wait++) {
            for (int what = 0; what < 4; what++) {
                BowedPlate plate = bowings(wait).plate();
                String title = wait + " wait: ";
                int due = what == 2 ? 1 : 0;
                checks.due(title + "the first", wait == 0 ? -5 : due, plate.waiting(0, what));
                checks.due(title + "the last", wait == 0 ? -2 : due, plate.waiting(wait - 1, what));
                checks.due(title + "one beyond", -5, plate.waiting(wait, what));
                checks.due(title + "one ahead of the first", -2, plate.waiting(-1, what));
            }
        }
    }
}
