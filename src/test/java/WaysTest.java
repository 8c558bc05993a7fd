/** Promises 16 to 21: places, ways, swings, and which way sounds (Terms, THE PLATE, CLAMPS, BOWS). */
public final class WaysTest {
    // m, n, sign of each way in their order
    private static final int[][] WAYS = {
        {0, 1, 0}, {0, 1, 1}, {1, 1, 0}, {0, 2, 0}, {0, 2, 1}, {1, 2, 0}, {1, 2, 1}, {2, 2, 0},
        {0, 3, 0}, {0, 3, 1}, {1, 3, 0}, {1, 3, 1}, {2, 3, 0}, {2, 3, 1}, {0, 4, 0}, {0, 4, 1},
        {1, 4, 0}, {1, 4, 1}, {3, 3, 0}, {2, 4, 0}, {2, 4, 1}, {0, 5, 0}, {3, 4, 0}, {0, 5, 1},
        {3, 4, 1}, {1, 5, 0}, {1, 5, 1}, {2, 5, 0}, {2, 5, 1}, {4, 4, 0}, {3, 5, 0}, {3, 5, 1},
        {0, 6, 0}, {0, 6, 1}, {1, 6, 0}, {1, 6, 1}, {2, 6, 0}, {2, 6, 1}, {4, 5, 0}, {4, 5, 1},
        {3, 6, 0}, {3, 6, 1}, {5, 5, 0}, {4, 6, 0}, {4, 6, 1}, {5, 6, 0}, {5, 6, 1}, {6, 6, 0},
    };
    // the heights of the wave 1 at the places 0 to 11
    private static final int[] WAVE_1 = {100, 82, 64, 46, 28, 10, -9, -27, -45, -63, -81, -100};

    private static final Checks checks = new Checks("WaysTest");

    private WaysTest() {
    }

    public static void main(String[] arguments) {
        waysInTheirOrder();
        swings();
        swingsOfOtherWaves();
        wrongCallsOfSwing();
        place();
        figures();
        wrongCallsOfWay();
        sounds();
        why();
        limitsOfClampAndBow();
        possible();
        checks.end();
    }

    private static void waysInTheirOrder() {
        BowedPlate plate = new BowedPlate();
        for (int way = 0; way < 48; way++) {
            int m = WAYS[way][0];
            int n = WAYS[way][1];
            for (int what = 0; what < 3; what++) {
                checks.due("way(" + way + ", " + what + ")", WAYS[way][what], plate.way(way, what));
            }
            checks.due("way(" + way + ", 3)", 10 * (m * m + n * n) + WAYS[way][2], plate.way(way, 3));
        }
    }

    private static void swings() {
        BowedPlate plate = new BowedPlate();
        for (int y = 0; y < 12; y++) {
            for (int x = 0; x < 12; x++) {
                String at = x + ", " + y + ")";
                checks.due("swing(0, " + at, Math.abs(WAVE_1[x] + WAVE_1[y]), plate.swing(0, x, y));
                checks.due("swing(1, " + at, Math.abs(WAVE_1[x] - WAVE_1[y]), plate.swing(1, x, y));
                checks.due("swing(2, " + at, Math.abs(2 * WAVE_1[x] * WAVE_1[y]) / 100, plate.swing(2, x, y));
            }
        }
    }

    private static void swingsOfOtherWaves() {
        BowedPlate plate = new BowedPlate();
        // w(2, 1) = 64, w(2, 3) = -9 (t is 109), w(1, 3) = 46: (82 * -9 + 64 * 46) / 100 = 22.06
        checks.due("swing(5, 1, 3)", 22, plate.swing(5, 1, 3));
        // (82 * -9 - 64 * 46) / 100 = -36.82
        checks.due("swing(6, 1, 3)", 36, plate.swing(6, 1, 3));
        // w(6, 2): t is 218, the height -82; w(6, 11): t is 1200 % 400 = 0, the height 100
        checks.due("swing(47, 2, 11)", 164, plate.swing(47, 2, 11));
        checks.due("swing(47, 11, 11)", 200, plate.swing(47, 11, 11));
        // w(2, 11): t is 0 again after one turn; w(1, 11) = -100
        checks.due("swing(5, 11, 11)", 200, plate.swing(5, 11, 11));
        checks.due("swing(6, 11, 11)", 0, plate.swing(6, 11, 11));
        checks.due("swing(6, 0, 11)", 200, plate.swing(6, 0, 11));
        // w(3, 7): t is 381, the height 81; w(5, 4): t is 363, the height 63;
        // w(3, 4): t is 218, the height -82; w(5, 7): t is 636 - 400 = 236, the height -64
        checks.due("swing(30, 7, 4): (81 * 63 + 64 * 82) / 100", 103, plate.swing(30, 7, 4));
        checks.due("swing(31, 7, 4): (81 * 63 - 64 * 82) / 100", 1, plate.swing(31, 7, 4));
    }

    private static void wrongCallsOfSwing() {
        BowedPlate plate = new BowedPlate();
        for (int off : new int[] {-1, 48, Integer.MIN_VALUE, Integer.MAX_VALUE}) {
            checks.due("swing(" + off + ", 0, 0)", -1, plate.swing(off, 0, 0));
            checks.due("swing(0, " + off + ", 0)", -1, plate.swing(0, off, 0));
            checks.due("swing(0, 0, " + off + ")", -1, plate.swing(0, 0, off));
        }
        checks.due("swing(0, 12, 0)", -1, plate.swing(0, 12, 0));
        checks.due("swing(0, 0, 12)", -1, plate.swing(0, 0, 12));
        checks.due("swing(12, 11, 11)", 200, plate.swing(12, 11, 11));
    }

    private static void place() {
        BowedPlate plate = new BowedPlate();
        checks.due("place(3, 4, 1) without a way", -5, plate.place(3, 4, 1));
        checks.due("place(3, 4, 2) without a way", -5, plate.place(3, 4, 2));
        checks.due("place(3, 4, 4) without a way", -2, plate.place(3, 4, 4));
        plate.bow(1, 0, 1);
        plate.play(1);
        checks.due("place(3, 4, 1): way 1", 18, plate.place(3, 4, 1));
        checks.due("place(3, 4, 2): 18 above 15", 0, plate.place(3, 4, 2));
        plate.set(2, 18);
        checks.due("place(3, 4, 2): 18 at 18", 1, plate.place(3, 4, 2));
        plate.set(2, 17);
        checks.due("place(3, 4, 2): 18 above 17", 0, plate.place(3, 4, 2));
        checks.due("place(3, 3, 1)", 0, plate.place(3, 3, 1));
        checks.due("place(3, 3, 2)", 1, plate.place(3, 3, 2));
        plate.clamp(9, 1);
        checks.due("place(9, 1, 3)", 0, plate.place(9, 1, 3));
        checks.due("place(1, 9, 3)", -5, plate.place(1, 9, 3));
        for (int off : new int[] {-1, 12, Integer.MIN_VALUE, Integer.MAX_VALUE}) {
            checks.due("place(" + off + ", 0, 0)", -1, plate.place(off, 0, 0));
            checks.due("place(0, " + off + ", 9)", -1, plate.place(0, off, 9));
        }
        for (int off : new int[] {-1, 4, Integer.MIN_VALUE, Integer.MAX_VALUE}) {
            checks.due("place(0, 0, " + off + ")", -2, plate.place(0, 0, off));
        }
    }

    private static void figures() {
        BowedPlate plate = new BowedPlate();
        plate.strew(4, 4, 50);
        // in the way 1 the diagonal alone is still: 12 places that touch at corners only
        checks.due("way(1, 4)", 12, plate.way(1, 4));
        checks.due("way(1, 5)", 12, plate.way(1, 5));
        checks.due("way(1, 6)", 110, plate.way(1, 6));
        plate.set(2, 18);
        // 18 beside it too, but for those where it is 19: (6, 5), (5, 6), (11, 10) and (10, 11)
        checks.due("way(1, 4) up to 18", 30, plate.way(1, 4));
        checks.due("way(1, 5) up to 18", 3, plate.way(1, 5));
        checks.due("way(1, 6) up to 18", 200, plate.way(1, 6));
        plate.set(2, 19);
        checks.due("way(1, 4) up to 19", 34, plate.way(1, 4));
        checks.due("way(1, 5) up to 19", 1, plate.way(1, 5));
        plate.set(2, 0);
        // the corners (11, 0) and (0, 11) alone are wholly still in the way 0
        checks.due("way(0, 4) at 0", 2, plate.way(0, 4));
        checks.due("way(0, 5) at 0", 2, plate.way(0, 5));
        checks.due("way(0, 6) at 0", 10, plate.way(0, 6));
        // with like numbers no wave is wholly still: 2 * 9 * 9 / 100 is 1
        checks.due("way(2, 4) at 0", 0, plate.way(2, 4));
        checks.due("way(2, 5) at 0", 0, plate.way(2, 5));
        checks.due("way(2, 6) at 0", 0, plate.way(2, 6));
        figuresAsACross();
    }

    private static void figuresAsACross() {
        BowedPlate plate = new BowedPlate();
        // the way 2 is still on the columns and rows 5 and 6 (44 places: 20 at the most), and
        // at the four places within their corners, as (4, 4) (15 at the most); then follow 24 and 25
        plate.set(2, 22);
        checks.due("way(2, 4)", 48, plate.way(2, 4));
        checks.due("way(2, 5): all hang together", 1, plate.way(2, 5));
        checks.due("way(2, 6)", 240, plate.way(2, 6));
    }

    private static void wrongCallsOfWay() {
        BowedPlate plate = new BowedPlate();
        for (int off : new int[] {-1, 48, Integer.MIN_VALUE, Integer.MAX_VALUE}) {
            checks.due("way(" + off + ", 0)", -1, plate.way(off, 0));
            checks.due("way(" + off + ", 8)", -1, plate.way(off, 8));
        }
        for (int off : new int[] {-1, 8, Integer.MIN_VALUE, Integer.MAX_VALUE}) {
            checks.due("way(0, " + off + ")", -2, plate.way(0, off));
        }
        checks.due("way(0, 7) without clamps", 1, plate.way(0, 7));
    }

    private static void sounds() {
        BowedPlate plate = new BowedPlate();
        // the corners are (0, 0), (11, 0), (11, 11), (0, 11); the way 0 is still at two of them
        int[][] cornersOfWay0 = {{0, 0}, {3, 0}, {1, 11}, {2, 11}};
        int[][] cornersOfWay1 = {{0, 11}, {1, 0}, {2, 0}, {3, 11}};
        for (int[] bow : cornersOfWay0) {
            checks.due("sounds(" + bow[0] + ", " + bow[1] + ")", 0, plate.sounds(bow[0], bow[1]));
        }
        for (int[] bow : cornersOfWay1) {
            checks.due("sounds(" + bow[0] + ", " + bow[1] + ")", 1, plate.sounds(bow[0], bow[1]));
        }
        // the way 0 at (7, 0) swings by 73, at (8, 0) by 55; at (0, 7), (0, 8) as well;
        // at (11, 3) by 54, at (11, 4) by 72; at (3, 11), (4, 11) as well
        int[][] sideAlongWay = {{0, 7, 0}, {0, 8, 1}, {3, 7, 0}, {3, 8, 1}, {1, 3, 1}, {1, 4, 0}, {2, 3, 1}, {2, 4, 0}};
        for (int[] row : sideAlongWay) {
            checks.due("sounds(" + row[0] + ", " + row[1] + ")", row[2], plate.sounds(row[0], row[1]));
        }
        for (int off : new int[] {-1, 12, Integer.MIN_VALUE, Integer.MAX_VALUE}) {
            checks.due("sounds(" + off + ", 0)", -1, plate.sounds(off, 0));
            checks.due("sounds(0, " + off + ")", -1, plate.sounds(0, off));
        }
        checks.due("sounds(4, 0)", -1, plate.sounds(4, 0));
        plate.clamp(0, 0);
        checks.due("sounds(0, 0): the bow is at the clamp", -5, plate.sounds(0, 0));
        checks.due("sounds(0, 11)", 1, plate.sounds(0, 11));
        checks.due("sounds is no act", 1, plate.count(15));
    }

    private static void why() {
        BowedPlate plate = new BowedPlate();
        checks.due("why(0, 0, 0)", 0, plate.why(0, 0, 0));
        checks.due("why(1, 0, 0)", 2, plate.why(1, 0, 0));
        checks.due("why(2, 0, 0)", 3, plate.why(2, 0, 0));
        plate.clamp(11, 11);
        checks.due("why(0, 0, 0): held", 1, plate.why(0, 0, 0));
        checks.due("why(1, 0, 0): let be, but swings too little", 2, plate.why(1, 0, 0));
        checks.due("why(2, 0, 0): held", 1, plate.why(2, 0, 0));
        checks.due("why(0, 0, 11): held goes ahead of too little", 1, plate.why(0, 0, 11));
        checks.due("why(1, 0, 11)", 0, plate.why(1, 0, 11));
        checks.due("why(4, 0, 6): another sounds", 3, plate.why(4, 0, 6));
        for (int off : new int[] {-1, 48, Integer.MIN_VALUE, Integer.MAX_VALUE}) {
            checks.due("why(" + off + ", 0, 0)", -1, plate.why(off, 0, 0));
            checks.due("why(0, " + off + ", 0)", -1, plate.why(0, off, 0));
            checks.due("why(0, 0, " + off + ")", -1, plate.why(0, 0, off));
        }
        checks.due("why(0, 4, 0)", -1, plate.why(0, 4, 0));
        checks.due("why(0, 0, 12)", -1, plate.why(0, 0, 12));
        checks.due("why(47, 0, 0)", 1, plate.why(47, 0, 0));
    }

    private static void limitsOfClampAndBow() {
        BowedPlate plate = new BowedPlate();
        // the way 0 swings by 91 at (6, 0), by 19 at (10, 0)
        plate.set(1, 91);
        checks.due("at the least swing it sounds", 0, plate.why(0, 0, 6));
        plate.set(1, 92);
        checks.due("below the least swing it does not", 2, plate.why(0, 0, 6));
        plate.clamp(10, 0);
        plate.set(0, 19);
        checks.due("at the most swing it is let be", 1, plate.way(0, 7));
        plate.set(0, 18);
        checks.due("above the most swing it is held", 0, plate.way(0, 7));
        checks.due("the clamp goes ahead of the bow", 1, plate.why(0, 0, 6));
        plate.clamp(4, 7);
        plate.set(0, 20);
        checks.due("both clamps let it be", 1, plate.way(0, 7));
        plate.clamp(5, 5);
        checks.due("20 at 20", 1, plate.way(0, 7));
        plate.clamp(4, 5);
        checks.due("the last of the clamps holds it", 0, plate.way(0, 7));
    }

    private static void possible() {
        BowedPlate plate = new BowedPlate();
        plate.clamp(11, 11);
        boolean[] isHeard = new boolean[48];
        for (int bow = 0; bow < 48; bow++) {
            int way = plate.sounds(bow / 12, bow % 12);
            if (way >= 0) {
                isHeard[way] = true;
            }
        }
        int[] found = new int[48];
        int ways = 0;
        for (int way = 0; way < 48; way++) {
            if (isHeard[way]) {
                found[ways++] = way;
            }
        }
        checks.holds("a clamp leaves more than one way", ways > 1);
        for (int rank = 0; rank < ways; rank++) {
            checks.due("possible(" + rank + ")", found[rank], plate.possible(rank));
        }
        checks.due("count(9)", ways, plate.count(9));
        checks.due("possible of one more", -5, plate.possible(ways));
        checks.due("possible(48)", -5, plate.possible(48));
        checks.due("possible(greatest)", -5, plate.possible(Integer.MAX_VALUE));
        checks.due("possible(-1)", -2, plate.possible(-1));
        checks.due("possible(least)", -2, plate.possible(Integer.MIN_VALUE));
        plate.unclamp(0);
        // the ways 0 and 1 swing by 60 or more at one bow or another, all along the sides
        checks.due("possible(0) without clamps", 0, plate.possible(0));
        checks.due("possible(1) without clamps", 1, plate.possible(1));
        checks.due("possible(2) without clamps", -5, plate.possible(2));
        noneIsPossible();
    }

    private static void noneIsPossible() {
        BowedPlate plate = new BowedPlate();
        plate.set(0, 0);
        plate.clamp(0, 0);
        plate.clamp(0, 11);
        plate.clamp(1, 5);
        plate.clamp(2, 9);
        plate.set(1, 150);
        int heard = 0;
        for (int bow = 0; bow < 48; bow++) {
            heard += plate.sounds(bow / 12, bow % 12) >= 0 ? 1 : 0;
        }
        checks.due("ways that sound with any bow", 0, heard);
        checks.due("possible(0)", -5, plate.possible(0));
        checks.due("count(9)", 0, plate.count(9));
    }
}
