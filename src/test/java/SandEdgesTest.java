/** Terms, SAND: each sentence that names an edge, by itself. */
public final class SandEdgesTest {
    private static final Checks checks = new Checks("SandEdgesTest");

    // above, to the left, to the right, below
    private static final int[][] BESIDE = {{0, -1}, {-1, 0}, {1, 0}, {0, 1}};

    private SandEdgesTest() {
    }

    public static void main(String[] arguments) {
        fiveGrainsAtFirst();
        zeroGrainsOrMore();
        moreSwingThanTheSetting();
        mostSwingOfAStillPlaceAtItsEnds();
        halfOfThemRoundedUp();
        atTheEdgeOneFallsOff();
        theLastGrainFallsOff();
        ofNoGrainsNoneFallsOff();
        swingFromWhichOnGrainsFall();
        fallSettingAtItsEnds();
        toTheLeastSwingOfFour();
        ofSeveralTheFirst();
        notToAPlaceThatSwingsAsMuch();
        otherwiseTheyStayButTheOneThatFalls();
        notAroundTheEdge();
        everyPlaceInEveryWay();
        allPlacesAtOnce();
        allPlacesAtOnceInEveryWay();
        whatComesDoesNotGoOn();
        stillPlacesAreThoseAtTheSettingToo();
        linesHangTogetherBySides();
        linesDoNotGoAroundTheEdge();
        linesOfEveryWay();
        noStillPlacesNoLines();
        sandOnStillPlaces();
        sandOfEachLine();
        mostGrainsOnAPlace();
        checks.end();
    }

    /** So many grains at a place and none elsewhere, settings 2 and 3, and so many strokes in a way. */
    private static BowedPlate stroked(int way, int strokes, int x, int y, int grains, int still, int fall) {
        Run run = Recipes.ready(way).then(plate -> plate.sweep(0), plate -> plate.set(2, still),
                plate -> plate.set(3, fall));
        if (grains > 0) {
            run = run.then(plate -> plate.strew(x, y, grains));
        }
        return run.then(Recipes.strokes(way, strokes)).plate();
    }

    /** "(5 at first)". */
    private static void fiveGrainsAtFirst() {
        BowedPlate plate = new BowedPlate();
        for (int place = 0; place < 144; place++) {
            checks.due("place " + place, 5, plate.place(place % 12, place / 12, 0));
        }
        checks.due("count(0)", 720, plate.count(0));
        checks.due("count(1)", 720, plate.count(1));
        checks.due("count(10)", 5, plate.count(10));
    }

    /** "A place has 0 or more grains": none at all, and far more than can be strewn at once. */
    private static void zeroGrainsOrMore() {
        BowedPlate plate = new BowedPlate();
        checks.due("sweep(0)", 720, plate.sweep(0));
        checks.due("count(0) of none", 0, plate.count(0));
        checks.due("count(10) of none", 0, plate.count(10));
        checks.due("place(0, 0, 0) of none", 0, plate.place(0, 0, 0));
        checks.due("sand(true, 0) of none", 0, plate.sand(true, 0));
        checks.due("keep() of none", 0, plate.keep());
        checks.due("sweep(0) of none is an act", 0, plate.sweep(0));
        checks.due("restore() of none is an act", 0, plate.restore());
        checks.due("count(15)", 3, plate.count(15));
        for (int time = 1; time <= 400; time++) {
            checks.due("strew(11, 11, 99)", 99 * time, plate.strew(11, 11, 99));
        }
        checks.due("count(0) of many", 39600, plate.count(0));
        checks.due("count(10) of many", 39600, plate.count(10));
        plate.bow(0, 0, 1);
        plate.play(1);
        // at the corner one of the 19800 that go falls off, the others go to (11, 10)
        checks.due("half of many", 19800, plate.place(11, 11, 0));
        checks.due("the others", 19799, plate.place(11, 10, 0));
        checks.due("fallen", 1, plate.count(3));
    }

    /** "of each place whose swing is greater than the setting 2": at it, and 1 above it. */
    private static void moreSwingThanTheSetting() {
        for (int way = 0; way < 48; way++) {
            BowedPlate ways = new BowedPlate();
            for (int place = way % 5; place < 144; place += 5) {
                int x = place % 12;
                int y = place / 12;
                int swing = ways.swing(way, x, y);
                String title = "way " + way + " at " + x + ", " + y + " (" + swing + "): ";
                if (swing <= 60) {
                    BowedPlate plate = stroked(way, 3, x, y, 8, swing, 50);
                    checks.due(title + "stays at the setting", 8, plate.place(x, y, 0));
                    checks.due(title + "none falls at the setting", 0, plate.count(3));
                }
                if (swing >= 1 && !isLeastOfFour(ways, way, x, y)) {
                    BowedPlate plate = stroked(way, 1, x, y, 8, Math.min(swing - 1, 60), 201);
                    checks.due(title + "goes above the setting", 4, plate.place(x, y, 0));
                }
            }
        }
    }

    private static boolean isPlace(int x, int y) {
        return x >= 0 && x < 12 && y >= 0 && y < 12;
    }

    private static boolean isLeastOfFour(BowedPlate plate, int way, int x, int y) {
        for (int[] step : BESIDE) {
            if (isPlace(x + step[0], y + step[1])
                    && plate.swing(way, x + step[0], y + step[1]) < plate.swing(way, x, y)) {
                return false;
            }
        }
        return true;
    }

    /** "2 the most swing of a still place (0 to 60; 15)": at 0, at 60, and as it is at first. */
    private static void mostSwingOfAStillPlaceAtItsEnds() {
        // the way 0 swings by 0 at (11, 0); the way 4 by 1 at (6, 5), by 0 to its left and below it
        checks.due("0 at 0", 8, stroked(0, 20, 11, 0, 8, 0, 50).place(11, 0, 0));
        checks.due("1 at 0 goes", 4, stroked(4, 1, 6, 5, 8, 0, 50).place(6, 5, 0));
        checks.due("1 at 0 goes to the left", 4, stroked(4, 1, 6, 5, 8, 0, 50).place(5, 5, 0));
        checks.due("1 at 1 stays", 8, stroked(4, 1, 6, 5, 8, 1, 50).place(6, 5, 0));
        // the way 0 swings by 17 at (10, 2), by 1 above it and to its left
        checks.due("17 at 17", 8, stroked(0, 1, 10, 2, 8, 17, 50).place(10, 2, 0));
        checks.due("17 at 15", 4, stroked(0, 1, 10, 2, 8, 15, 50).place(10, 2, 0));
        // the way 5 swings by 60 at (5, 1), by 61 at (10, 9), by less beside them
        checks.due("60 at 60", 8, stroked(5, 5, 5, 1, 8, 60, 50).place(5, 1, 0));
        checks.due("60 at 59", 4, stroked(5, 1, 5, 1, 8, 59, 50).place(5, 1, 0));
        checks.due("61 at 60", 4, stroked(5, 1, 10, 9, 8, 60, 50).place(10, 9, 0));
        // the way 2 swings by 15 at (4, 4) and by 5 beside it, by 16 at (5, 1) and by 1 to 20 beside it
        checks.due("15 at 15, the first value", 8, stroked(2, 4, 4, 4, 8, 15, 50).place(4, 4, 0));
        checks.due("15 at 14", 4, stroked(2, 1, 4, 4, 8, 14, 50).place(4, 4, 0));
        checks.due("16 at 15, the first value", 4, stroked(2, 1, 5, 1, 8, 15, 50).place(5, 1, 0));
    }

    /** "half of its grains, rounded up, go": from none to 99. */
    private static void halfOfThemRoundedUp() {
        int[][] grainsAndStay = {{0, 0}, {1, 0}, {2, 1}, {3, 1}, {4, 2}, {5, 2}, {6, 3}, {7, 3}, {98, 49}, {99, 49}};
        for (int[] row : grainsAndStay) {
            // (2, 2) swings by 128 in the way 0, (3, 2) to its right by 110
            BowedPlate plate = stroked(0, 1, 2, 2, row[0], 15, 150);
            checks.due("of " + row[0] + " stay", row[1], plate.place(2, 2, 0));
            checks.due("of " + row[0] + " go", row[0] - row[1], plate.place(3, 2, 0));
            checks.due("of " + row[0] + " are there", row[0], plate.count(0));
            // at the edge: (0, 1) swings by 182, (1, 1) to its right by 164
            plate = stroked(0, 1, 0, 1, row[0], 15, 150);
            int falls = row[0] > 0 ? 1 : 0;
            checks.due("at the edge, of " + row[0] + " stay", row[1], plate.place(0, 1, 0));
            checks.due("at the edge, of " + row[0] + " go on", row[0] - row[1] - falls, plate.place(1, 1, 0));
            checks.due("at the edge, of " + row[0] + " fall", falls, plate.count(3));
        }
    }

    /** "Places with x or y 0 or 11 are at the edge", "if it is at the edge ... one of these falls off". */
    private static void atTheEdgeOneFallsOff() {
        int edge = 0;
        int inside = 0;
        for (int place = 0; place < 144; place++) {
            int x = place % 12;
            int y = place / 12;
            BowedPlate ways = new BowedPlate();
            // at each place at the edge one of the two swings by 100 or more
            int way = ways.swing(0, x, y) >= ways.swing(1, x, y) ? 0 : 1;
            if (ways.swing(way, x, y) < 51) {
                continue;
            }
            boolean isEdge = x == 0 || x == 11 || y == 0 || y == 11;
            edge += isEdge ? 1 : 0;
            inside += isEdge ? 0 : 1;
            BowedPlate plate = stroked(way, 1, x, y, 10, 15, 50);
            checks.due("fallen at " + x + ", " + y, isEdge ? 1 : 0, plate.count(3));
            checks.due("left at " + x + ", " + y, 5, plate.place(x, y, 0));
            checks.due("left on the plate", isEdge ? 9 : 10, plate.count(0));
        }
        checks.due("places at the edge", 44, edge);
        checks.holds("places inside: " + inside, inside > 60);
    }

    /** "one of these falls off": with one grain alone it is that one, and none goes on. */
    private static void theLastGrainFallsOff() {
        BowedPlate plate = stroked(0, 1, 0, 0, 1, 15, 150);
        checks.due("the last one falls off", 0, plate.count(0));
        checks.due("fallen", 1, plate.count(3));
        plate = stroked(0, 1, 0, 0, 2, 15, 150);
        checks.due("one of two stays", 1, plate.place(0, 0, 0));
        checks.due("the other one falls off", 1, plate.count(0));
        plate = stroked(0, 2, 0, 0, 2, 15, 150);
        checks.due("both fall off by two strokes", 0, plate.count(0));
        checks.due("fallen by two strokes", 2, plate.count(3));
        plate = stroked(0, 1, 0, 0, 3, 15, 150);
        checks.due("one of three goes on", 1, plate.place(1, 0, 0));
        checks.due("one of three stays", 1, plate.place(0, 0, 0));
    }

    /** A place without grains loses none. */
    private static void ofNoGrainsNoneFallsOff() {
        BowedPlate plate = stroked(0, 20, 5, 5, 0, 0, 50);
        checks.due("on the empty plate: fallen", 0, plate.count(3));
        checks.due("on the empty plate: left", 0, plate.count(0));
        checks.due("on the empty plate: most", 0, plate.count(10));
        checks.due("strokes", 20, plate.count(6));
        plate = stroked(0, 3, 0, 0, 1, 15, 150);
        checks.due("one fell, no more can", 1, plate.count(3));
        checks.due("none is less than none", 0, plate.place(0, 0, 0));
    }

    /** "its swing is at least the setting 3": at it, and 1 below it, at each place at the edge. */
    private static void swingFromWhichOnGrainsFall() {
        for (int number = 0; number < 44; number++) {
            int side = number / 11;
            int along = number % 11;
            int x = side == 0 ? along : side == 1 ? 11 : side == 2 ? 11 - along : 0;
            int y = side == 0 ? 0 : side == 1 ? along : side == 2 ? 11 : 11 - along;
            for (int way = number % 3; way < 48; way += 3) {
                int swing = new BowedPlate().swing(way, x, y);
                String title = "way " + way + " at " + x + ", " + y + " (" + swing + "): ";
                if (swing >= 50) {
                    checks.due(title + "falls at the setting", 1, stroked(way, 1, x, y, 4, 15, swing).count(3));
                    checks.due(title + "not 1 above", 0, stroked(way, 1, x, y, 4, 15, swing + 1).count(3));
                } else {
                    checks.due(title + "never falls", 0, stroked(way, 1, x, y, 4, 0, 50).count(3));
                }
            }
        }
    }

    /** "3 the swing from which on grains fall at the edge (50 to 201; 150)". */
    private static void fallSettingAtItsEnds() {
        checks.due("200 at 201: none ever falls", 0, stroked(0, 20, 0, 0, 99, 15, 201).count(3));
        checks.due("200 at 200", 1, stroked(0, 1, 0, 0, 99, 15, 200).count(3));
        // the way 0 swings by 146 at (3, 0) and by 164 at (2, 0), by 54 at (11, 3) and by 36 at (11, 2)
        checks.due("146 at 150, the first value", 0, stroked(0, 1, 3, 0, 9, 15, 150).count(3));
        checks.due("164 at 150, the first value", 1, stroked(0, 1, 2, 0, 9, 15, 150).count(3));
        checks.due("54 at 50", 1, stroked(0, 1, 11, 3, 9, 15, 50).count(3));
        checks.due("36 at 50", 0, stroked(0, 1, 11, 2, 9, 15, 50).count(3));
    }

    private static void goesTo(String title, int way, int x, int y, int toX, int toY) {
        BowedPlate plate = stroked(way, 1, x, y, 8, 15, 201);
        checks.due(title + ": stay at " + x + ", " + y, 4, plate.place(x, y, 0));
        checks.due(title + ": go to " + toX + ", " + toY, 4, plate.place(toX, toY, 0));
        checks.due(title + ": on the plate", 8, plate.count(0));
    }

    /** "to the place with the least swing of those above, to the left, to the right and below it". */
    private static void toTheLeastSwingOfFour() {
        goesTo("above alone", 0, 7, 6, 7, 5);
        goesTo("the left alone", 0, 6, 7, 5, 7);
        goesTo("the right alone", 0, 5, 2, 6, 2);
        goesTo("below alone", 0, 0, 5, 0, 6);
    }

    /** "(of several the first in this order)": each two of the four, each three, all four. */
    private static void ofSeveralTheFirst() {
        goesTo("above and left", 0, 9, 4, 9, 3);
        goesTo("above and right", 1, 1, 2, 1, 1);
        goesTo("above and below", 27, 3, 6, 3, 5);
        goesTo("left and right", 27, 6, 3, 5, 3);
        goesTo("left and below", 1, 2, 1, 1, 1);
        goesTo("right and below", 0, 1, 1, 2, 1);
        goesTo("above, left and right", 32, 6, 1, 6, 0);
        goesTo("above, left and below", 32, 1, 6, 1, 5);
        goesTo("above, right and below", 21, 10, 4, 10, 3);
        goesTo("left, right and below", 21, 4, 10, 3, 10);
        goesTo("all four", 46, 3, 2, 3, 1);
    }

    /** "if that swings less than the place itself": not if it swings as much. */
    private static void notToAPlaceThatSwingsAsMuch() {
        // these swing by 17 to 44, as does the calmest place beside them
        int[][] wayAndPlace = {{3, 6, 0}, {3, 7, 1}, {3, 7, 2}, {3, 8, 2}, {10, 5, 1}, {10, 0, 5}, {10, 2, 6}, {15, 9, 4},
            {19, 6, 11}, {20, 5, 2}};
        for (int[] row : wayAndPlace) {
            BowedPlate ways = new BowedPlate();
            int least = 201;
            for (int[] step : BESIDE) {
                if (isPlace(row[1] + step[0], row[2] + step[1])) {
                    least = Math.min(least, ways.swing(row[0], row[1] + step[0], row[2] + step[1]));
                }
            }
            String title = "way " + row[0] + " at " + row[1] + ", " + row[2];
            checks.due(title + ": least beside it", ways.swing(row[0], row[1], row[2]), least);
            BowedPlate plate = stroked(row[0], 5, row[1], row[2], 8, 15, 50);
            checks.due(title + ": stays", 8, plate.place(row[1], row[2], 0));
            checks.due(title + ": strokes", 5, plate.count(6));
        }
    }

    /** "otherwise they stay (but the one that falls off)". */
    private static void otherwiseTheyStayButTheOneThatFalls() {
        // the way 32 swings by 54 at (6, 0), by 55 and more beside it
        for (int grains = 1; grains <= 6; grains++) {
            BowedPlate plate = stroked(32, 1, 6, 0, grains, 15, 54);
            checks.due("of " + grains + " one falls, the others stay", grains - 1, plate.place(6, 0, 0));
            checks.due("of " + grains + ": fallen", 1, plate.count(3));
            checks.due("of " + grains + ": on the plate", grains - 1, plate.count(0));
            plate = stroked(32, 1, 6, 0, grains, 15, 55);
            checks.due("of " + grains + " all stay", grains, plate.place(6, 0, 0));
        }
        checks.due("one by each stroke", 4, stroked(32, 3, 6, 0, 7, 15, 54).place(6, 0, 0));
        checks.due("until none is left", 0, stroked(32, 20, 6, 0, 7, 15, 54).place(6, 0, 0));
        checks.due("and no more fall", 7, stroked(32, 20, 6, 0, 7, 15, 54).count(3));
    }

    /** What is above, to the left, to the right and below ends at the edge. */
    private static void notAroundTheEdge() {
        for (int way = 0; way < 48; way++) {
            for (int number = way % 4; number < 48; number += 4) {
                int side = number / 12;
                int along = number % 12;
                int x = Sides.columnOf(side, along);
                int y = Sides.rowOf(side, along);
                BowedPlate plate = stroked(way, 1, x, y, 8, 0, 201);
                int near = plate.place(x, y, 0);
                for (int[] step : BESIDE) {
                    near += Math.max(plate.place(x + step[0], y + step[1], 0), 0);
                }
                checks.due("way " + way + " at " + x + ", " + y + ": on it and beside it", 8, near);
            }
        }
    }

    /** The whole sentence, for each place in each way, by what swing() tells. */
    private static void everyPlaceInEveryWay() {
        for (int way = 0; way < 48; way++) {
            for (int place = 0; place < 144; place++) {
                int x = place % 12;
                int y = place / 12;
                BowedPlate plate = stroked(way, 1, x, y, 7, 15, 150);
                int swing = plate.swing(way, x, y);
                boolean isEdge = x == 0 || x == 11 || y == 0 || y == 11;
                int falls = isEdge && swing >= 150 ? 1 : 0;
                int toX = x;
                int toY = y;
                int least = swing;
                for (int[] step : BESIDE) {
                    int beside = plate.swing(way, x + step[0], y + step[1]);
                    if (swing > 15 && beside >= 0 && beside < least) {
                        least = beside;
                        toX = x + step[0];
                        toY = y + step[1];
                    }
                }
                boolean goes = least < swing;
                String title = "way " + way + " at " + x + ", " + y + ": ";
                checks.due(title + "fallen", falls, plate.count(3));
                checks.due(title + "left", goes ? 3 : 7 - falls, plate.place(x, y, 0));
                checks.due(title + "where they go", goes ? 4 - falls : 7 - falls, plate.place(toX, toY, 0));
                checks.due(title + "on the plate", 7 - falls, plate.count(0));
            }
        }
    }

    /** "All places at once": neighbours in a row, whichever is looked at first. */
    private static void allPlacesAtOnce() {
        // the way 0 swings by 128, 110, 92, 74 at (2, 2) to (5, 2): all go to the right
        Run run = Run.of(plate -> plate.sweep(0), plate -> plate.strew(2, 2, 8), plate -> plate.strew(3, 2, 4),
                plate -> plate.strew(4, 2, 2), plate -> plate.bow(0, 0, 1), plate -> plate.play(1));
        BowedPlate plate = run.plate();
        int[] due = {4, 6, 3, 1};
        for (int index = 0; index < due.length; index++) {
            checks.due("to the right: place(" + (2 + index) + ", 2, 0)", due[index], plate.place(2 + index, 2, 0));
        }
        // and by 126, 108, 90, 72 at (9, 9) to (9, 6): all go up
        run = Run.of(p -> p.sweep(0), p -> p.strew(9, 9, 8), p -> p.strew(9, 8, 4),
                p -> p.strew(9, 7, 2), p -> p.bow(0, 0, 1), p -> p.play(1));
        plate = run.plate();
        for (int index = 0; index < due.length; index++) {
            checks.due("up: place(9, " + (9 - index) + ", 0)", due[index], plate.place(9, 9 - index, 0));
        }
    }

    /** The whole plate with more grains on some places, so that grains of several meet at one. */
    private static void allPlacesAtOnceInEveryWay() {
        for (int way = 0; way < 48; way++) {
            Run run = Recipes.ready(way).then(plate -> plate.sweep(3));
            for (int number = 0; number < 20; number++) {
                int place = (number * 53 + way * 7) % 144;
                int grains = 1 + number * 4;
                run = run.then(plate -> plate.strew(place % 12, place / 12, grains));
            }
            BowedPlate before = run.plate();
            int[] due = new int[144];
            for (int place = 0; place < 144; place++) {
                due[place] = before.place(place % 12, place / 12, 0);
            }
            int fallen = 0;
            for (int stroke = 0; stroke < 3; stroke++) {
                fallen += strokeOf(way, due);
            }
            BowedPlate plate = run.then(Recipes.strokes(way, 3)).plate();
            for (int place = 0; place < 144; place++) {
                checks.due("way " + way + ", three strokes: place " + place, due[place],
                        plate.place(place % 12, place / 12, 0));
            }
            checks.due("way " + way + ", three strokes: fallen", fallen, plate.count(3));
            checks.due("way " + way + ", three strokes: none is lost", before.count(0) - fallen, plate.count(0));
        }
    }

    /** A stroke by what swing() tells, with the first settings; how many fall off. */
    private static int strokeOf(int way, int[] grains) {
        BowedPlate ways = new BowedPlate();
        int[] swings = new int[144];
        for (int place = 0; place < 144; place++) {
            swings[place] = ways.swing(way, place % 12, place / 12);
        }
        int[] change = new int[144];
        int fallen = 0;
        for (int place = 0; place < 144; place++) {
            int go = swings[place] > 15 ? grains[place] - grains[place] / 2 : 0;
            int x = place % 12;
            int y = place / 12;
            int falls = go > 0 && swings[place] >= 150 && (x == 0 || x == 11 || y == 0 || y == 11) ? 1 : 0;
            int to = place;
            for (int[] step : BESIDE) {
                int beside = 12 * (y + step[1]) + x + step[0];
                if (isPlace(x + step[0], y + step[1]) && swings[beside] < swings[to]) {
                    to = beside;
                }
            }
            change[place] -= go;
            change[to] += go - falls;
            fallen += falls;
        }
        for (int place = 0; place < 144; place++) {
            grains[place] += change[place];
        }
        return fallen;
    }

    /** "what comes to a place by a stroke does not go on by the same one": to the left and below too. */
    private static void whatComesDoesNotGoOn() {
        int[][] wayPlaceStep = {{0, 2, 2, 1, 0}, {0, 9, 9, 0, -1}, {0, 6, 9, -1, 0}, {0, 2, 5, 0, 1}};
        for (int[] row : wayPlaceStep) {
            BowedPlate plate = stroked(row[0], 1, row[1], row[2], 16, 15, 150);
            String title = "from " + row[1] + ", " + row[2] + ": ";
            checks.due(title + "beside it", 8, plate.place(row[1] + row[3], row[2] + row[4], 0));
            checks.due(title + "two steps on", 0, plate.place(row[1] + 2 * row[3], row[2] + 2 * row[4], 0));
            plate = stroked(row[0], 2, row[1], row[2], 16, 15, 150);
            checks.due(title + "left by the second stroke", 4, plate.place(row[1], row[2], 0));
            checks.due(title + "beside it by the second stroke", 8, plate.place(row[1] + row[3], row[2] + row[4], 0));
        }
    }

    /** "those with a swing of at most the setting 2": at it, and 1 below it. */
    private static void stillPlacesAreThoseAtTheSettingToo() {
        for (int way = 0; way < 48; way++) {
            for (int still = 0; still <= 60; still += 5) {
                BowedPlate plate = new BowedPlate();
                plate.set(2, still);
                int due = 0;
                for (int place = 0; place < 144; place++) {
                    due += plate.swing(way, place % 12, place / 12) <= still ? 1 : 0;
                }
                checks.due("way(" + way + ", 4) up to " + still, due, plate.way(way, 4));
                checks.due("way(" + way + ", 6) up to " + still, 5 * due, plate.way(way, 6));
            }
        }
        // the way 0 swings by 0 at two corners, by 1 at the ten places between them, then by 17 and more
        int[][] stillAndPlaces = {{0, 2}, {1, 12}, {16, 12}, {17, 20}};
        for (int[] row : stillAndPlaces) {
            BowedPlate plate = new BowedPlate();
            plate.set(2, row[0]);
            checks.due("way(0, 4) up to " + row[0], row[1], plate.way(0, 4));
        }
    }

    /** "a set of still places that hang together by sides, as large as can be": not by corners. */
    private static void linesHangTogetherBySides() {
        BowedPlate plate = new BowedPlate();
        plate.set(2, 0);
        checks.due("the diagonal's places", 12, plate.way(1, 4));
        checks.due("they touch by corners alone", 12, plate.way(1, 5));
        checks.due("the two corners of the way 0", 2, plate.way(0, 5));
        plate.set(2, 15);
        checks.due("the other diagonal's places", 12, plate.way(0, 4));
        checks.due("they touch by corners alone", 12, plate.way(0, 5));
        plate.set(2, 20);
        checks.due("with those beside them", 34, plate.way(0, 4));
        checks.due("they are one", 1, plate.way(0, 5));
        checks.due("a cross is one", 1, plate.way(2, 5));
    }

    /** The first column and the last one, the first row and the last one, do not hang together. */
    private static void linesDoNotGoAroundTheEdge() {
        int[][] wayStillLines = {
            {4, 0, 14}, {11, 0, 15}, {20, 0, 21}, {4, 15, 21}, {14, 30, 32}, {32, 60, 17},
            // in these the end of one row and the start of the next are still
            {25, 30, 13}, {27, 30, 15}, {30, 30, 13}, {34, 45, 17}, {35, 60, 10}, {40, 45, 5}, {45, 15, 17},
        };
        for (int[] row : wayStillLines) {
            BowedPlate plate = new BowedPlate();
            plate.set(2, row[1]);
            checks.due("way(" + row[0] + ", 5) up to " + row[1], row[2], plate.way(row[0], 5));
        }
    }

    /** Two still places hang together if a row of still ones goes from one to the other. */
    private static void linesOfEveryWay() {
        for (int way = 0; way < 48; way++) {
            BowedPlate plate = new BowedPlate();
            int[] swings = new int[144];
            for (int place = 0; place < 144; place++) {
                swings[place] = plate.swing(way, place % 12, place / 12);
            }
            for (int still = 60; still >= 0; still--) {
                plate.set(2, still);
                checks.due("way(" + way + ", 5) up to " + still, linesOf(swings, still), plate.way(way, 5));
            }
            checks.due("way(" + way + ", 5) as at first", linesOf(swings, 15),
                    new BowedPlate().way(way, 5));
        }
    }

    /** Each still place takes the least number beside it, until none changes: so many keep their own. */
    private static int linesOf(int[] swings, int still) {
        int[] numbers = new int[144];
        for (int place = 0; place < 144; place++) {
            numbers[place] = place;
        }
        boolean isChanged = true;
        while (isChanged) {
            isChanged = false;
            for (int place = 0; place < 144; place++) {
                for (int[] step : BESIDE) {
                    int x = place % 12 + step[0];
                    int y = place / 12 + step[1];
                    if (isPlace(x, y) && swings[place] <= still && swings[12 * y + x] <= still
                            && numbers[12 * y + x] < numbers[place]) {
                        numbers[place] = numbers[12 * y + x];
                        isChanged = true;
                    }
                }
            }
        }
        int lines = 0;
        for (int place = 0; place < 144; place++) {
            lines += swings[place] <= still && numbers[place] == place ? 1 : 0;
        }
        return lines;
    }

    /** A way without still places has no lines. */
    private static void noStillPlacesNoLines() {
        BowedPlate plate = new BowedPlate();
        plate.set(2, 0);
        for (int what = 4; what < 7; what++) {
            checks.due("way(2, " + what + ") at 0", 0, plate.way(2, what));
        }
        plate.set(2, 1);
        // 10 * -9 and -9 * -9, doubled, are cut to 1 hundredth
        checks.due("way(2, 4) at 1", 3, plate.way(2, 4));
        checks.due("way(2, 5) at 1", 1, plate.way(2, 5));
        checks.due("way(2, 6) at 1", 15, plate.way(2, 6));
    }

    /** "the grains on its still places": none, one, and those of a swept plate. */
    private static void sandOnStillPlaces() {
        BowedPlate plate = new BowedPlate();
        plate.sweep(0);
        checks.due("none", 0, plate.way(0, 6));
        plate.strew(0, 0, 9);
        checks.due("none on still places", 0, plate.way(0, 6));
        plate.strew(11, 0, 1);
        checks.due("one at the first corner", 1, plate.way(0, 6));
        plate.strew(0, 11, 2);
        checks.due("two more at the last corner", 3, plate.way(0, 6));
        checks.due("none of them on the way 1's", 9, plate.way(1, 6));
    }

    /** "the sum" of the first row and column, of the last ones, and of those between. */
    private static void sandOfEachLine() {
        for (int place = 0; place < 144; place++) {
            int x = place % 12;
            int y = place / 12;
            BowedPlate plate = new BowedPlate();
            plate.strew(x, y, 3);
            for (int line = 0; line < 12; line++) {
                checks.due("row " + line + " with more at place " + place, line == y ? 63 : 60, plate.sand(true, line));
                checks.due("column " + line + " with more at place " + place, line == x ? 63 : 60,
                        plate.sand(false, line));
            }
        }
    }

    /** "10 for the most grains on a place": wherever it is, and when all have as many. */
    private static void mostGrainsOnAPlace() {
        for (int place = 0; place < 144; place++) {
            BowedPlate plate = new BowedPlate();
            plate.sweep(0);
            plate.strew(place % 12, place / 12, 2);
            checks.due("count(10) with 2 at place " + place, 2, plate.count(10));
        }
        BowedPlate plate = new BowedPlate();
        plate.sweep(99);
        checks.due("count(10) of a full plate", 99, plate.count(10));
        plate.strew(4, 4, 1);
        checks.due("count(10)", 100, plate.count(10));
        plate.sweep(0);
        checks.due("count(10) of none", 0, plate.count(10));
    }
}
