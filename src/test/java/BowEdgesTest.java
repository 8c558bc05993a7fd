/** Terms, CLAMPS, BOWS: each sentence that names an edge, by itself. */
public final class BowEdgesTest {
    private static final Checks checks = new Checks("BowEdgesTest");

    private BowEdgesTest() {
    }

    public static void main(String[] arguments) {
        firstValuesOfTheSettings();
        rangesOfTheSettings();
        atMostFourClamps();
        clampsAtTheEdgeAndInside();
        numbersOfClampsBehindOneTakenAway();
        sidesAreWhereTheyAreTold();
        placesAlongASideEndAtItsCorners();
        atMostTheSettingAtAClamp();
        mostSwingOfAClampAtItsEnds();
        atEachClamp();
        atLeastTheSettingAtTheBow();
        leastSwingAtTheBowAtItsEnds();
        everyWaySoundsInItsTurn();
        theFirstOneInTheirOrderSounds();
        theFirstReasonIsTold();
        noneSounds();
        possibleWaysFromFirstToLast();
        possibleWaysOfNow();
        checks.end();
    }

    /** "(in parentheses: range; first value)". */
    private static void firstValuesOfTheSettings() {
        int[] due = {20, 60, 15, 150};
        for (int which = 0; which < 4; which++) {
            BowedPlate plate = new BowedPlate();
            checks.due("first count(" + (11 + which) + ")", due[which], plate.count(11 + which));
            checks.due("set to the first one", -5, plate.set(which, due[which]));
            checks.due("set to one more", due[which], plate.set(which, due[which] + 1));
            checks.due("set back", due[which] + 1, plate.set(which, due[which]));
        }
    }

    /** "0 the most swing that a clamp lets be (0 to 60; 20)" to "3 .. (50 to 201; 150)". */
    private static void rangesOfTheSettings() {
        int[][] ranges = {{0, 60}, {1, 150}, {0, 60}, {50, 201}};
        int[] first = {20, 60, 15, 150};
        for (int which = 0; which < 4; which++) {
            int least = ranges[which][0];
            int most = ranges[which][1];
            BowedPlate plate = new BowedPlate();
            checks.due("set(" + which + ", least - 1)", -2, plate.set(which, least - 1));
            checks.due("it is as it was", first[which], plate.count(11 + which));
            checks.due("set(" + which + ", most + 1)", -2, plate.set(which, most + 1));
            checks.due("it is as it was", first[which], plate.count(11 + which));
            checks.due("none is recorded", 0, plate.count(15));
            checks.due("set(" + which + ", least)", first[which], plate.set(which, least));
            checks.due("set(" + which + ", least) again", -5, plate.set(which, least));
            checks.due("set(" + which + ", most)", least, plate.set(which, most));
            checks.due("set(" + which + ", most) again", -5, plate.set(which, most));
            checks.due("two are recorded", 2, plate.count(15));
            for (int other = 0; other < 4; other++) {
                checks.due("count of " + other, other == which ? most : first[other], plate.count(11 + other));
            }
        }
    }

    /** "There are at most 4 clamps"; what comes behind: room again as soon as one is taken away. */
    private static void atMostFourClamps() {
        BowedPlate plate = new BowedPlate();
        for (int clamp = 0; clamp < 4; clamp++) {
            checks.due("clamp(" + clamp + ", 0)", clamp + 1, plate.clamp(clamp, 0));
        }
        checks.due("a fifth one", -3, plate.clamp(4, 0));
        checks.due("it is not there", -5, plate.place(4, 0, 3));
        checks.due("count(4)", 4, plate.count(4));
        checks.due("unclamp(0)", 3, plate.unclamp(0));
        checks.due("room again", 4, plate.clamp(4, 0));
        checks.due("full again", -3, plate.clamp(5, 0));
        checks.due("unclamp(3)", 3, plate.unclamp(3));
        checks.due("room again behind the last one", 4, plate.clamp(5, 0));
        plate.undo();
        checks.due("room again by undo()", 4, plate.clamp(6, 0));
        checks.due("clampAt(3, false)", 6, plate.clampAt(3, false));
    }

    /** "each at a place": every place, once. */
    private static void clampsAtTheEdgeAndInside() {
        for (int place = 0; place < 144; place++) {
            int x = place % 12;
            int y = place / 12;
            BowedPlate plate = new BowedPlate();
            checks.due("clamp(" + x + ", " + y + ")", 1, plate.clamp(x, y));
            checks.due("clamp(" + x + ", " + y + ") again", -5, plate.clamp(x, y));
            checks.due("place(" + x + ", " + y + ", 3)", 0, plate.place(x, y, 3));
            checks.due("its column", x, plate.clampAt(0, false));
            checks.due("its row", y, plate.clampAt(0, true));
            checks.due("the place opposite", -5, plate.place(11 - x, 11 - y, 3));
            if (x != y) {
                checks.due("the mirrored place is another one", 2, plate.clamp(y, x));
            }
        }
    }

    /** "those behind it get numbers that are 1 less": the first, each between, the last one. */
    private static void numbersOfClampsBehindOneTakenAway() {
        for (int taken = 0; taken < 4; taken++) {
            BowedPlate plate = new BowedPlate();
            for (int clamp = 0; clamp < 4; clamp++) {
                plate.clamp(2 * clamp, 11 - clamp);
            }
            checks.due("unclamp(" + taken + ")", 3, plate.unclamp(taken));
            for (int clamp = 0; clamp < 4; clamp++) {
                int due = clamp == taken ? -5 : clamp > taken ? clamp - 1 : clamp;
                checks.due("without " + taken + ": number of " + clamp, due, plate.place(2 * clamp, 11 - clamp, 3));
            }
            for (int clamp = 0; clamp < 3; clamp++) {
                int old = clamp < taken ? clamp : clamp + 1;
                checks.due("without " + taken + ": column", 2 * old, plate.clampAt(clamp, false));
                checks.due("without " + taken + ": row", 11 - old, plate.clampAt(clamp, true));
            }
            checks.due("without " + taken + ": clampAt(3, true)", -1, plate.clampAt(3, true));
            checks.due("without " + taken + ": unclamp(3)", -1, plate.unclamp(3));
        }
    }

    /** "(0 the row 0, 1 the column 11, 2 the row 11, 3 the column 0)": each way at each bow. */
    private static void sidesAreWhereTheyAreTold() {
        for (int bow = 0; bow < 48; bow++) {
            int side = bow / 12;
            int along = bow % 12;
            BowedPlate plate = new BowedPlate();
            for (int way = 0; way < 48; way++) {
                boolean isTooLittle = plate.swing(way, Sides.columnOf(side, along), Sides.rowOf(side, along)) < 60;
                checks.holds("why(" + way + ", " + side + ", " + along + ")",
                        (plate.why(way, side, along) == 2) == isTooLittle);
            }
        }
    }

    /** "(0 to 11: its column or its row)": two sides meet at each corner. */
    private static void placesAlongASideEndAtItsCorners() {
        // a way that sounds at one of two bows at a corner sounds at the other one too
        int[][] corners = {{0, 0, 3, 0}, {0, 11, 1, 0}, {1, 11, 2, 11}, {2, 0, 3, 11}};
        int[] due = {0, 1, 0, 1};
        for (int corner = 0; corner < 4; corner++) {
            int[] row = corners[corner];
            BowedPlate plate = new BowedPlate();
            checks.due("corner " + corner, due[corner], plate.sounds(row[0], row[1]));
            checks.due("corner " + corner + " by its other side", due[corner], plate.sounds(row[2], row[3]));
            plate.clamp(Sides.columnOf(row[0], row[1]), Sides.rowOf(row[0], row[1]));
            checks.due("a clamp at corner " + corner, -5, plate.sounds(row[0], row[1]));
            checks.due("a clamp at corner " + corner + " by its other side", -5, plate.sounds(row[2], row[3]));
        }
        for (int side = 0; side < 4; side++) {
            BowedPlate plate = new BowedPlate();
            checks.due("sounds(" + side + ", -1)", -1, plate.sounds(side, -1));
            checks.due("sounds(" + side + ", 12)", -1, plate.sounds(side, 12));
            checks.due("bow(" + side + ", -1, 1)", -1, plate.bow(side, -1, 1));
            checks.due("bow(" + side + ", 12, 1)", -1, plate.bow(side, 12, 1));
            checks.due("why(0, " + side + ", -1)", -1, plate.why(0, side, -1));
            checks.due("why(0, " + side + ", 12)", -1, plate.why(0, side, 12));
        }
    }

    /** "those that swing by at most the setting 0 at each clamp": every way, at every place once. */
    private static void atMostTheSettingAtAClamp() {
        for (int way = 0; way < 48; way++) {
            for (int place = way % 7; place < 144; place += 7) {
                BowedPlate plate = new BowedPlate();
                int swing = plate.swing(way, place % 12, place / 12);
                plate.clamp(place % 12, place / 12);
                String title = "way " + way + ", clamp at place " + place + ": ";
                if (swing <= 60) {
                    plate.set(0, swing);
                    checks.due(title + "as much as is let be", 1, plate.way(way, 7));
                    checks.holds(title + "not held", plate.why(way, 0, 3) != 1);
                }
                if (swing >= 1) {
                    plate.set(0, Math.min(swing - 1, 60));
                    checks.due(title + "more than is let be", 0, plate.way(way, 7));
                    checks.due(title + "held", 1, plate.why(way, 0, 3));
                }
            }
        }
    }

    /** "(0 to 60; 20)": the setting 0 at 0 and at 60, and as it is at first. */
    private static void mostSwingOfAClampAtItsEnds() {
        // the way 0 swings by 0 at (11, 0), by 1 at (10, 1)
        BowedPlate plate = new BowedPlate();
        plate.set(0, 0);
        plate.clamp(11, 0);
        checks.due("0 at 0", 1, plate.way(0, 7));
        plate.clamp(10, 1);
        checks.due("1 at 0", 0, plate.way(0, 7));
        plate.set(0, 1);
        checks.due("1 at 1", 1, plate.way(0, 7));
        // the way 2 swings by 20 at (0, 5) (2 * 100 * 10 / 100), the way 10 by 38 there
        plate = new BowedPlate();
        plate.clamp(0, 5);
        checks.due("swing(2, 0, 5)", 20, plate.swing(2, 0, 5));
        checks.due("20 at 20, the first value", 1, plate.way(2, 7));
        plate.set(0, 19);
        checks.due("20 at 19", 0, plate.way(2, 7));
        // the way 5 swings by 60 at (5, 1), by 61 at (10, 9)
        plate = new BowedPlate();
        plate.set(0, 60);
        plate.clamp(5, 1);
        checks.due("swing(5, 5, 1)", 60, plate.swing(5, 5, 1));
        checks.due("60 at 60", 1, plate.way(5, 7));
        plate = new BowedPlate();
        plate.set(0, 60);
        plate.clamp(10, 9);
        checks.due("swing(5, 10, 9)", 61, plate.swing(5, 10, 9));
        checks.due("61 at 60", 0, plate.way(5, 7));
    }

    /** "at each clamp": one clamp of four, whichever it is, holds a way. */
    private static void atEachClamp() {
        // the way 0 swings by at most 1 at these
        int[][] still = {{0, 11}, {1, 10}, {2, 9}, {3, 8}};
        for (int holding = -1; holding < 4; holding++) {
            BowedPlate plate = new BowedPlate();
            for (int clamp = 0; clamp < 4; clamp++) {
                plate.clamp(clamp == holding ? 0 : still[clamp][0], clamp == holding ? 0 : still[clamp][1]);
            }
            checks.due("count(4)", 4, plate.count(4));
            checks.due("clamp " + holding + " holds: way(0, 7)", holding < 0 ? 1 : 0, plate.way(0, 7));
            checks.due("clamp " + holding + " holds: why(0, 0, 1)", holding < 0 ? 0 : 1, plate.why(0, 0, 1));
        }
        BowedPlate plate = new BowedPlate();
        for (int way = 0; way < 48; way++) {
            checks.due("no clamp holds: way(" + way + ", 7)", 1, plate.way(way, 7));
        }
    }

    /** "by at least the setting 1 at the bow": every way at every bow where it can be bowed. */
    private static void atLeastTheSettingAtTheBow() {
        for (int bow = 0; bow < 48; bow++) {
            int side = bow / 12;
            int along = bow % 12;
            for (int way = 0; way < 48; way++) {
                BowedPlate plate = new BowedPlate();
                int swing = plate.swing(way, Sides.columnOf(side, along), Sides.rowOf(side, along));
                String title = "way " + way + ", side " + side + ", along " + along + ": ";
                if (swing >= 1 && swing <= 150) {
                    plate.set(1, swing);
                    checks.holds(title + "as much as is needed", plate.why(way, side, along) != 2);
                }
                if (swing < 150) {
                    plate.set(1, swing + 1);
                    checks.due(title + "less than is needed", 2, plate.why(way, side, along));
                }
            }
        }
    }

    /** "(1 to 150; 60)": the setting 1 at 1, at 150, and as it is at first. */
    private static void leastSwingAtTheBowAtItsEnds() {
        BowedPlate plate = new BowedPlate();
        plate.set(1, 1);
        // the way 0 swings by 0 at (11, 0), by 19 at (10, 0)
        checks.due("0 at 1", 2, plate.why(0, 0, 11));
        checks.due("19 at 1", 0, plate.why(0, 0, 10));
        checks.due("sounds(0, 11)", 1, plate.sounds(0, 11));
        plate.set(1, 150);
        // the way 0 swings by 146 at (3, 0), by 164 at (2, 0)
        checks.due("146 at 150", 2, plate.why(0, 0, 3));
        checks.due("164 at 150", 0, plate.why(0, 0, 2));
        checks.due("sounds(0, 2)", 0, plate.sounds(0, 2));
        // the way 0 swings by 55 at (8, 0), by 73 at (7, 0)
        plate = new BowedPlate();
        checks.due("55 at 60, the first value", 2, plate.why(0, 0, 8));
        checks.due("73 at 60, the first value", 0, plate.why(0, 0, 7));
    }

    /** Every way, the first and the last one too, sounds with its own clamps. */
    private static void everyWaySoundsInItsTurn() {
        for (int way = 0; way < 48; way++) {
            int side = Recipes.side(way);
            int along = Recipes.along(way);
            BowedPlate plate = Recipes.ready(way).plate();
            checks.due("way " + way + ": sounds", way, plate.sounds(side, along));
            checks.due("way " + way + ": why", 0, plate.why(way, side, along));
            checks.due("way " + way + ": let be", 1, plate.way(way, 7));
            plate.bow(side, along, 1);
            checks.due("way " + way + ": waiting(0, 3)", way, plate.waiting(0, 3));
            checks.due("way " + way + ": play(1)", 1, plate.play(1));
            checks.due("way " + way + ": count(8)", way, plate.count(8));
            checks.due("way " + way + ": place(4, 7, 1)", plate.swing(way, 4, 7), plate.place(4, 7, 1));
        }
    }

    /** "that way sounds that is the first one in their order": none ahead of it could. */
    private static void theFirstOneInTheirOrderSounds() {
        for (int recipe = 0; recipe < 48; recipe++) {
            for (int side = 0; side < 4; side++) {
                for (int along = side; along < 12; along += 4) {
                    BowedPlate plate = Recipes.ready(recipe).plate();
                    int due = -5;
                    for (int way = 47; way >= 0; way--) {
                        int swing = plate.swing(way, Sides.columnOf(side, along), Sides.rowOf(side, along));
                        boolean isLoud = swing >= plate.count(12);
                        due = isLoud && plate.way(way, 7) == 1 ? way : due;
                    }
                    String title = "clamps of " + recipe + ", side " + side + ", along " + along + ": ";
                    checks.due(title + "sounds", due, plate.sounds(side, along));
                    for (int way = 0; way < 48; way++) {
                        int swing = plate.swing(way, Sides.columnOf(side, along), Sides.rowOf(side, along));
                        boolean isLoud = swing >= plate.count(12);
                        int reason = plate.way(way, 7) == 0 ? 1 : !isLoud ? 2 : way == due ? 0 : 3;
                        checks.due(title + "why of " + way, reason, plate.why(way, side, along));
                    }
                }
            }
        }
    }

    /** "A way does not sound for the first of these reasons". */
    private static void theFirstReasonIsTold() {
        BowedPlate plate = new BowedPlate();
        plate.clamp(11, 11);
        checks.due("1 and 2: held, and too little at the bow", 1, plate.why(0, 0, 11));
        checks.due("2 alone", 2, plate.why(1, 0, 0));
        checks.due("1 alone", 1, plate.why(0, 0, 0));
        checks.due("1 and 3: held, another one sounds", 1, plate.why(14, 0, 8));
        checks.due("what sounds there", 1, plate.sounds(0, 8));
        checks.due("3 alone", 3, plate.why(4, 0, 6));
        checks.due("what sounds there", 1, plate.sounds(0, 6));
        checks.due("2 and 3: too little, another one sounds", 2, plate.why(46, 0, 1));
        checks.due("0", 0, plate.why(1, 0, 6));
        plate = new BowedPlate();
        checks.due("2, though none ahead of it sounds", 2, plate.why(0, 0, 11));
        checks.due("3 for the last way", 3, plate.why(47, 0, 0));
        checks.due("2 for the last way", 2, plate.why(47, 0, 3));
    }

    /** "NONE if none sounds": the clamp stands where the bow is. */
    private static void noneSounds() {
        for (int bow = 0; bow < 48; bow++) {
            int side = bow / 12;
            int along = bow % 12;
            BowedPlate plate = new BowedPlate();
            plate.clamp(Sides.columnOf(side, along), Sides.rowOf(side, along));
            String title = "side " + side + ", along " + along + ": ";
            checks.due(title + "sounds", -5, plate.sounds(side, along));
            plate.bow(side, along, 3);
            checks.due(title + "waiting(0, 3)", -5, plate.waiting(0, 3));
            checks.due(title + "play(1)", 0, plate.play(1));
            checks.due(title + "count(7)", 1, plate.count(7));
            for (int way = 0; way < 48; way++) {
                int why = plate.why(way, side, along);
                checks.holds(title + "why of " + way, why == 1 || why == 2);
            }
        }
    }

    /** "the ways that sound with any bow, with the clamps of now, in their order": each rank, one beyond. */
    private static void possibleWaysFromFirstToLast() {
        for (int recipe = 0; recipe < 48; recipe++) {
            possibleAreThoseThatSound("clamps of " + recipe + ": ", Recipes.ready(recipe));
        }
        for (int place = 0; place < 144; place++) {
            int x = place % 12;
            int y = place / 12;
            for (int least : new int[] {1, 19, 30, 60, 73, 91, 109, 146, 150}) {
                possibleAreThoseThatSound("a clamp at " + x + ", " + y + " and " + least + ": ",
                        Run.of(plate -> plate.set(1, least), plate -> plate.clamp(x, y)));
                possibleAreThoseThatSound("a clamp at " + x + ", " + y + " and " + least + ", asked ahead of it too: ",
                        Run.of(plate -> plate.set(1, least), plate -> plate.possible(0), plate -> plate.clamp(x, y)));
            }
        }
    }

    private static void possibleAreThoseThatSound(String title, Run run) {
        BowedPlate plate = run.plate();
        int rank = 0;
        boolean[] isHeard = heard(plate);
        for (int way = 0; way < 48; way++) {
            if (isHeard[way]) {
                checks.due(title + "possible(" + rank + ")", way, plate.possible(rank));
                rank++;
            }
        }
        checks.due(title + "count(9)", rank, plate.count(9));
        checks.due(title + "one beyond", -5, plate.possible(rank));
        checks.due(title + "below the first", -2, plate.possible(-1));
    }

    private static boolean[] heard(BowedPlate plate) {
        boolean[] isHeard = new boolean[48];
        for (int bow = 0; bow < 48; bow++) {
            int way = plate.sounds(bow / 12, bow % 12);
            if (way >= 0) {
                isHeard[way] = true;
            }
        }
        return isHeard;
    }

    /** "with the clamps of now": another answer as soon as a clamp is set, taken away, undone. */
    private static void possibleWaysOfNow() {
        for (int start = 0; start < 144; start += 4) {
            BowedPlate plate = new BowedPlate();
            for (int number = 0; number < 4; number++) {
                int place = (start + 29 * number) % 144;
                plate.clamp(place % 12, place / 12);
                int due = 0;
                for (boolean isHeard : heard(plate)) {
                    due += isHeard ? 1 : 0;
                }
                checks.due("start " + start + ", " + (number + 1) + " clamps: count(9)", due, plate.count(9));
                checks.due("start " + start + ", one beyond", -5, plate.possible(due));
            }
            for (int left = 3; left >= 0; left--) {
                plate.unclamp(0);
                int due = 0;
                for (boolean isHeard : heard(plate)) {
                    due += isHeard ? 1 : 0;
                }
                checks.due("start " + start + ", " + left + " clamps left: count(9)", due, plate.count(9));
            }
            plate.undo();
            checks.due("start " + start + ", undone", -5, plate.possible(plate.count(9)));
            plate.unclamp(0);
            checks.due("start " + start + ", none: count(9)", 2, plate.count(9));
            checks.due("start " + start + ", none: possible(1)", 1, plate.possible(1));
        }
    }
}
