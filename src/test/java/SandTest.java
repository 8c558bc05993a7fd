/** Promises 1 to 3 and 23, and how strokes move the sand (Terms, SAND). */
public final class SandTest {
    private static final Checks checks = new Checks("SandTest");

    private SandTest() {
    }

    public static void main(String[] arguments) {
        newObject();
        strew();
        sweep();
        sand();
        halfRoundedUpGoesToTheRight();
        aloneGrainFallsAtTheEdge();
        nothingFallsBelowTheSetting();
        leastNeighbourTakesTheGrains();
        stillPlacesKeepTheirGrains();
        calmestPlaceKeepsItsGrains();
        calmestPlaceAtTheEdgeLosesOne();
        allFourEdgesAreEdges();
        noGrainGoesTwiceInOneStroke();
        strokesAddUp();
        checks.end();
    }

    private static void newObject() {
        BowedPlate plate = new BowedPlate();
        for (int y = 0; y < 12; y++) {
            for (int x = 0; x < 12; x++) {
                checks.due("new: place(" + x + ", " + y + ", 0)", 5, plate.place(x, y, 0));
                checks.due("new: place(" + x + ", " + y + ", 3)", -5, plate.place(x, y, 3));
            }
        }
        int[] due = {720, 720, 0, 0, 0, 0, 0, 0, -5, -1, 5, 20, 60, 15, 150, 0, 0};
        for (int what = 0; what < due.length; what++) {
            if (what != 9) {
                checks.due("new: count(" + what + ")", due[what], plate.count(what));
            }
        }
        checks.due("new: undo()", -5, plate.undo());
        checks.due("new: restore()", -5, plate.restore());
        checks.due("new: unclamp(0)", -1, plate.unclamp(0));
        BowedPlate other = new BowedPlate();
        plate.strew(0, 0, 1);
        checks.due("another object has its own sand", 5, other.place(0, 0, 0));
    }

    private static void strew() {
        BowedPlate plate = new BowedPlate();
        checks.due("strew(0, 0, 1)", 6, plate.strew(0, 0, 1));
        checks.due("strew(11, 11, 99)", 104, plate.strew(11, 11, 99));
        checks.due("strew(2, 9, 10)", 15, plate.strew(2, 9, 10));
        checks.due("strew(2, 9, 10) again", 25, plate.strew(2, 9, 10));
        checks.due("place(2, 9, 0)", 25, plate.place(2, 9, 0));
        checks.due("place(9, 2, 0)", 5, plate.place(9, 2, 0));
        checks.due("count(0)", 840, plate.count(0));
        checks.due("count(1)", 840, plate.count(1));
        checks.due("count(10)", 104, plate.count(10));
        checks.due("count(15)", 4, plate.count(15));
        int[][] nowhere = {{-1, 0}, {0, -1}, {12, 0}, {0, 12}, {Integer.MIN_VALUE, 5}, {5, Integer.MAX_VALUE}};
        for (int[] at : nowhere) {
            checks.due("strew(" + at[0] + ", " + at[1] + ", 1)", -1, plate.strew(at[0], at[1], 1));
            checks.due("strew(" + at[0] + ", " + at[1] + ", 0)", -1, plate.strew(at[0], at[1], 0));
        }
        for (int grains : new int[] {0, -1, 100, Integer.MIN_VALUE, Integer.MAX_VALUE}) {
            checks.due("strew(0, 0, " + grains + ")", -2, plate.strew(0, 0, grains));
        }
        checks.due("count(1) after errors", 840, plate.count(1));
    }

    private static void sweep() {
        BowedPlate plate = new BowedPlate();
        plate.strew(4, 4, 7);
        checks.due("sweep(3)", 727, plate.sweep(3));
        checks.due("place(4, 4, 0)", 3, plate.place(4, 4, 0));
        checks.due("count(0)", 432, plate.count(0));
        checks.due("count(1)", 720 + 7 + 432, plate.count(1));
        checks.due("count(2)", 727, plate.count(2));
        checks.due("sweep(0)", 432, plate.sweep(0));
        checks.due("count(10)", 0, plate.count(10));
        checks.due("sweep(99)", 0, plate.sweep(99));
        checks.due("count(2)", 1159, plate.count(2));
        checks.due("count(3)", 0, plate.count(3));
        checks.due("count(0)", 144 * 99, plate.count(0));
        for (int grains : new int[] {-1, 100, Integer.MIN_VALUE, Integer.MAX_VALUE}) {
            checks.due("sweep(" + grains + ")", -2, plate.sweep(grains));
        }
        checks.due("count(0) after errors", 144 * 99, plate.count(0));
        checks.due("count(15)", 4, plate.count(15));
    }

    private static void sand() {
        BowedPlate plate = new BowedPlate();
        plate.sweep(1);
        plate.strew(3, 8, 20);
        checks.due("sand(true, 8)", 32, plate.sand(true, 8));
        checks.due("sand(false, 3)", 32, plate.sand(false, 3));
        checks.due("sand(true, 3)", 12, plate.sand(true, 3));
        checks.due("sand(false, 8)", 12, plate.sand(false, 8));
        checks.due("sand(true, 0)", 12, plate.sand(true, 0));
        checks.due("sand(false, 11)", 12, plate.sand(false, 11));
        for (int line : new int[] {-1, 12, Integer.MIN_VALUE, Integer.MAX_VALUE}) {
            checks.due("sand(true, " + line + ")", -1, plate.sand(true, line));
            checks.due("sand(false, " + line + ")", -1, plate.sand(false, line));
        }
    }

    /** A plate without sand but so many grains at one place. */
    private static BowedPlate withGrainsAt(int x, int y, int grains) {
        BowedPlate plate = new BowedPlate();
        plate.sweep(0);
        plate.strew(x, y, grains);
        return plate;
    }

    /** So many strokes in the way 0, which swings by |w(1, x) + w(1, y)|. */
    private static void strokeInWay0(BowedPlate plate, int strokes) {
        plate.bow(0, 0, strokes);
        checks.due("play(1) sounds", 1, plate.play(1));
        checks.due("it is the way 0", 0, plate.count(8));
    }

    private static void halfRoundedUpGoesToTheRight() {
        // right and below swing by 182 both: above, left, right, below is the order
        BowedPlate plate = withGrainsAt(0, 0, 7);
        strokeInWay0(plate, 1);
        checks.due("corner: of 7 stay", 3, plate.place(0, 0, 0));
        checks.due("corner: to the right", 3, plate.place(1, 0, 0));
        checks.due("corner: below", 0, plate.place(0, 1, 0));
        checks.due("corner: fallen", 1, plate.count(3));
        checks.due("corner: on the plate", 6, plate.count(0));
        plate = withGrainsAt(0, 0, 8);
        strokeInWay0(plate, 1);
        checks.due("corner: of 8 stay", 4, plate.place(0, 0, 0));
        checks.due("corner: of 8 to the right", 3, plate.place(1, 0, 0));
    }

    private static void aloneGrainFallsAtTheEdge() {
        BowedPlate plate = withGrainsAt(0, 0, 1);
        strokeInWay0(plate, 1);
        checks.due("alone grain: on the plate", 0, plate.count(0));
        checks.due("alone grain: fallen", 1, plate.count(3));
        checks.due("alone grain: swept is another number", 720, plate.count(2));
        plate = withGrainsAt(0, 0, 1);
        plate.set(3, 201);
        strokeInWay0(plate, 1);
        checks.due("alone grain: goes to the right", 1, plate.place(1, 0, 0));
        strokeInWay0(plate, 3);
        checks.due("alone grain: goes on", 1, plate.place(4, 0, 0));
    }

    private static void nothingFallsBelowTheSetting() {
        // the corner swings by 200, the place to its right by 182
        int[][] settingAndFallen = {{201, 0}, {200, 1}, {182, 2}, {183, 1}};
        for (int[] row : settingAndFallen) {
            BowedPlate plate = withGrainsAt(0, 0, 8);
            plate.strew(1, 0, 8);
            plate.set(3, row[0]);
            strokeInWay0(plate, 1);
            checks.due("fallen with the setting 3 at " + row[0], row[1], plate.count(3));
            checks.due("left with the setting 3 at " + row[0], 16 - row[1], plate.count(0));
        }
        // inside, nothing falls: (1, 1) swings by 164
        BowedPlate plate = withGrainsAt(1, 1, 8);
        strokeInWay0(plate, 1);
        checks.due("fallen inside", 0, plate.count(3));
        checks.due("inside: to the right", 4, plate.place(2, 1, 0));
    }

    private static void leastNeighbourTakesTheGrains() {
        // at (8, 8), swing 90: above and to the left 72, to the right and below 108
        BowedPlate plate = withGrainsAt(8, 8, 9);
        strokeInWay0(plate, 1);
        checks.due("above takes them", 5, plate.place(8, 7, 0));
        checks.due("not the left", 0, plate.place(7, 8, 0));
        checks.due("the place keeps", 4, plate.place(8, 8, 0));
        // at (11, 8) of the way 0, swing 145, nothing falls: above 127, to the left 126, below 163
        plate = withGrainsAt(11, 8, 6);
        strokeInWay0(plate, 1);
        checks.due("the left swings less", 3, plate.place(10, 8, 0));
        checks.due("above swings more", 0, plate.place(11, 7, 0));
        // at (3, 11) of the way 0, swing 54: above 35, to the left 36, to the right 72
        plate = withGrainsAt(3, 11, 4);
        strokeInWay0(plate, 1);
        checks.due("above swings least", 2, plate.place(3, 10, 0));
        // at (6, 2), swing 73: above 91, to the left 92, to the right 55, below 55
        plate = withGrainsAt(6, 2, 4);
        strokeInWay0(plate, 1);
        checks.due("right ahead of below", 2, plate.place(7, 2, 0));
        // at (0, 10), swing 19: below 0, above 37, to the right 1
        plate = withGrainsAt(0, 10, 4);
        strokeInWay0(plate, 1);
        checks.due("below takes them", 2, plate.place(0, 11, 0));
    }

    private static void stillPlacesKeepTheirGrains() {
        // (4, 4) swings by 56
        BowedPlate plate = withGrainsAt(4, 4, 10);
        plate.set(2, 56);
        strokeInWay0(plate, 20);
        checks.due("still at the setting itself", 10, plate.place(4, 4, 0));
        plate.set(2, 55);
        strokeInWay0(plate, 1);
        checks.due("not still above the setting", 5, plate.place(4, 4, 0));
        checks.due("to the right", 5, plate.place(5, 4, 0));
    }

    private static void calmestPlaceKeepsItsGrains() {
        // (5, 6) swings by 1, its neighbours by 17 to 20
        BowedPlate plate = withGrainsAt(5, 6, 9);
        plate.set(2, 0);
        strokeInWay0(plate, 5);
        checks.due("calmest place", 9, plate.place(5, 6, 0));
        checks.due("strokes", 5, plate.count(6));
    }

    private static void calmestPlaceAtTheEdgeLosesOne() {
        // the way 32 (0, 6, plus) swings by 54 at (6, 0), by 55 beside it and by 163 below it
        int[][] settingAndLeft = {{54, 4}, {55, 5}};
        for (int[] row : settingAndLeft) {
            BowedPlate plate = withGrainsAt(6, 0, 5);
            plate.clamp(8, 1);
            plate.set(1, 100);
            plate.set(3, row[0]);
            checks.due("sounds(1, 3)", 32, plate.sounds(1, 3));
            plate.bow(1, 3, 1);
            checks.due("play(1)", 1, plate.play(1));
            checks.due("left with the setting 3 at " + row[0], row[1], plate.place(6, 0, 0));
            checks.due("fallen with the setting 3 at " + row[0], 5 - row[1], plate.count(3));
        }
    }

    private static void allFourEdgesAreEdges() {
        // all of these swing by more than 150 in the way 0, but the last two are inside
        int[][] placeAndFallen = {{1, 0, 1}, {0, 1, 1}, {11, 10, 1}, {10, 11, 1}, {1, 1, 0}, {10, 10, 0}};
        for (int[] row : placeAndFallen) {
            BowedPlate plate = withGrainsAt(row[0], row[1], 4);
            strokeInWay0(plate, 1);
            checks.due("fallen at " + row[0] + ", " + row[1], row[2], plate.count(3));
            checks.due("left of " + row[0] + ", " + row[1], 2, plate.place(row[0], row[1], 0));
        }
    }

    private static void noGrainGoesTwiceInOneStroke() {
        BowedPlate plate = withGrainsAt(2, 2, 16);
        plate.strew(3, 2, 4);
        strokeInWay0(plate, 1);
        checks.due("(2, 2) keeps", 8, plate.place(2, 2, 0));
        checks.due("(3, 2) keeps 2 and gets 8", 10, plate.place(3, 2, 0));
        checks.due("(4, 2) gets 2", 2, plate.place(4, 2, 0));
    }

    private static void strokesAddUp() {
        // of 16 at (2, 2) half goes on to (3, 2) by each stroke, and half of that to (4, 2)
        BowedPlate plate = withGrainsAt(2, 2, 16);
        strokeInWay0(plate, 3);
        checks.due("(2, 2) after 3", 2, plate.place(2, 2, 0));
        checks.due("(3, 2) after 3", 6, plate.place(3, 2, 0));
        checks.due("(4, 2) after 3", 6, plate.place(4, 2, 0));
        checks.due("(5, 2) after 3", 2, plate.place(5, 2, 0));
        checks.due("count(6)", 3, plate.count(6));
    }
}
