/** 'What it is': what the document's first paragraph says of the whole, by what several calls tell. */
public final class SummaryTest {
    private static final Checks checks = new Checks("SummaryTest");

    private SummaryTest() {
    }

    public static void main(String[] arguments) {
        clampsHoldPlacesStill();
        theLowestNoteThatClampsAndBowAllow();
        theOthersDoNotSound();
        grainsMoveToPlacesThatSwingLess();
        grainsFallOffAtTheEdge();
        sandGathersOnStillPlaces();
        everyStillPlaceIsOnALine();
        notesThatCanSoundAtAll();
        sandAddsUp();
        aTextIsAPieceToo();
        checks.end();
    }

    /** "clamps that hold places still": what sounds swings by little at each clamp. */
    private static void clampsHoldPlacesStill() {
        for (int recipe = 0; recipe < 48; recipe++) {
            for (int bow = 0; bow < 48; bow++) {
                BowedPlate plate = Recipes.ready(recipe).plate();
                int way = plate.sounds(bow / 12, bow % 12);
                for (int clamp = 0; way >= 0 && clamp < plate.count(4); clamp++) {
                    int swing = plate.swing(way, plate.clampAt(clamp, false), plate.clampAt(clamp, true));
                    checks.holds("clamps of " + recipe + ", bow " + bow + ": the way " + way + " swings by " + swing
                            + " at the clamp " + clamp, swing >= 0 && swing <= plate.count(11));
                }
            }
        }
    }

    /** "the note of the lowest way that clamps and bow allow". */
    private static void theLowestNoteThatClampsAndBowAllow() {
        for (int recipe = 0; recipe < 48; recipe++) {
            Run ready = Recipes.ready(recipe);
            for (int bow = recipe % 4; bow < 48; bow += 4) {
                int side = bow / 12;
                int along = bow % 12;
                BowedPlate plate = ready.plate();
                int lowest = Integer.MAX_VALUE;
                for (int way = 0; way < 48; way++) {
                    boolean isAllowed = plate.way(way, 7) == 1
                            && plate.swing(way, Sides.columnOf(side, along), Sides.rowOf(side, along))
                            >= plate.count(12);
                    lowest = isAllowed ? Math.min(lowest, plate.way(way, 3)) : lowest;
                }
                int sounding = plate.sounds(side, along);
                checks.due("clamps of " + recipe + ", side " + side + ", along " + along + ": note",
                        lowest, sounding < 0 ? Integer.MAX_VALUE : plate.way(sounding, 3));
            }
        }
    }

    /** "and why another one does not sound": each has a reason, but the one that sounds. */
    private static void theOthersDoNotSound() {
        for (int recipe = 0; recipe < 48; recipe++) {
            for (int side = 0; side < 4; side++) {
                BowedPlate plate = Recipes.ready(recipe).plate();
                int along = (recipe + 3 * side) % 12;
                int sounding = plate.sounds(side, along);
                for (int way = 0; way < 48; way++) {
                    int why = plate.why(way, side, along);
                    checks.holds("clamps of " + recipe + ", side " + side + ", along " + along + ": why of " + way
                            + " is " + why, way == sounding ? why == 0 : why >= 1 && why <= 3);
                    checks.holds("a way behind it alone has the reason 3", why != 3 || sounding >= 0 && way > sounding);
                }
            }
        }
    }

    /** "grains that move from places that swing to ones that swing less". */
    private static void grainsMoveToPlacesThatSwingLess() {
        for (int way = 0; way < 48; way++) {
            Run ready = Recipes.ready(way).then(plate -> plate.set(3, 201));
            long first = swingOfSand(ready.plate(), way);
            long one = swingOfSand(ready.then(Recipes.strokes(way, 1)).plate(), way);
            long many = swingOfSand(ready.then(Recipes.strokes(way, 20)).plate(), way);
            checks.holds("way " + way + ": the sand swings less by strokes: " + first + ", " + one + ", " + many,
                    one < first && many < one);
        }
    }

    /** The swings of the places of all grains. */
    private static long swingOfSand(BowedPlate plate, int way) {
        long sum = 0;
        for (int place = 0; place < 144; place++) {
            sum += (long) plate.place(place % 12, place / 12, 0) * plate.swing(way, place % 12, place / 12);
        }
        return sum;
    }

    /** "that fall off at the edge": none is gone without it. */
    private static void grainsFallOffAtTheEdge() {
        for (int way = 0; way < 48; way++) {
            Run ready = Recipes.ready(way);
            BowedPlate plate = ready.then(Recipes.strokes(way, 20)).plate();
            checks.due("way " + way + ": grains", 720 - plate.count(3), plate.count(0));
            BowedPlate none = ready.then(p -> p.set(3, 201)).then(Recipes.strokes(way, 20)).plate();
            checks.due("way " + way + ": none falls off", 720, none.count(0));
        }
    }

    /** "figures": no stroke takes sand off the still places of its way. */
    private static void sandGathersOnStillPlaces() {
        for (int way = 0; way < 48; way++) {
            Run run = Recipes.ready(way);
            int before = 5 * run.plate().way(way, 4);
            checks.due("way " + way + ": at first", before, run.plate().way(way, 6));
            for (int stroke = 1; stroke <= 12; stroke++) {
                run = run.then(Recipes.strokes(way, 1));
                int now = run.plate().way(way, 6);
                checks.holds("way " + way + ": " + now + " behind stroke " + stroke + ", " + before + " before it",
                        now >= before);
                before = now;
            }
        }
    }

    /** "figures as lines of still places, how many lines, how much sand lies on them". */
    private static void everyStillPlaceIsOnALine() {
        for (int way = 0; way < 48; way++) {
            for (int still = 0; still <= 60; still += 12) {
                BowedPlate plate = new BowedPlate();
                plate.set(2, still);
                int places = plate.way(way, 4);
                int lines = plate.way(way, 5);
                checks.holds("way " + way + " up to " + still + ": " + lines + " lines of " + places + " places",
                        lines <= places && lines > 0 == places > 0);
                checks.due("way " + way + " up to " + still + ": sand on them", 5 * places, plate.way(way, 6));
            }
        }
    }

    /** "notes that can sound at all": each rank has a higher note, and a bow by which it sounds. */
    private static void notesThatCanSoundAtAll() {
        for (int recipe = 0; recipe < 48; recipe++) {
            int ways = Recipes.ready(recipe).answer(plate -> plate.count(9));
            int note = -1;
            for (int rank = 0; rank < ways; rank++) {
                BowedPlate plate = Recipes.ready(recipe).plate();
                int way = plate.possible(rank);
                int next = plate.way(way, 3);
                int bows = 0;
                for (int bow = 0; bow < 48; bow++) {
                    bows += plate.sounds(bow / 12, bow % 12) == way ? 1 : 0;
                }
                checks.holds("clamps of " + recipe + ": the rank " + rank + " sounds with a bow", bows > 0);
                checks.holds("clamps of " + recipe + ": the rank " + rank + " is higher", note < next
                        || note == next && plate.possible(rank - 1) < way);
                note = next;
            }
        }
    }

    /** "sand that adds up": strewn is what lies there, was swept off or fell, whatever is done. */
    private static void sandAddsUp() {
        BowedPlate plate = new BowedPlate();
        for (int round = 0; round < 25; round++) {
            plate.strew(round % 12, round % 5, 1 + round);
            plate.bow(round % 4, round % 12, 1 + round % 20);
            addsUp(plate, "bowed");
            plate.play(2);
            addsUp(plate, "played");
            if (round % 6 == 2) {
                plate.sweep(round);
            }
            if (round % 5 == 1) {
                plate.undo();
            }
            if (round % 7 == 3) {
                plate.keep();
            }
            if (round % 7 == 6) {
                plate.restore();
            }
            addsUp(plate, "round " + round);
        }
    }

    private static void addsUp(BowedPlate plate, String title) {
        checks.due(title + ": strewn", plate.count(1), plate.count(0) + plate.count(2) + plate.count(3));
    }

    /** "pieces that are read from a text": the same piece as by bow(), heard the same. */
    private static void aTextIsAPieceToo() {
        Run typed = Run.of(plate -> plate.clamp(0, 0)).typed("t6x20,t0,b11x3,l4").then(BowedPlate::bowAll);
        Run bowed = Run.of(plate -> plate.clamp(0, 0), plate -> plate.bow(0, 6, 20), plate -> plate.bow(0, 0, 1),
                plate -> plate.bow(2, 11, 3), plate -> plate.bow(3, 4, 1)).typed("t6x20,t0,b11x3,l4");
        Run.Call play = plate -> plate.play(16);
        Questions.sameButForHistory(checks, "by a text", bowed, typed);
        Questions.sameButForHistory(checks, "by a text", bowed.then(play), typed.then(play));
    }
}
