/** Terms, THE PLATE AND ITS WAYS: each sentence that names an edge, by itself. */
public final class PlateEdgesTest {
    private static final Checks checks = new Checks("PlateEdgesTest");

    /**
     * The heights w(k, z), a row for each k from 0 to 6: t is 200 * k * z / 11 rounded down, less
     * 400 from 400 on; as k = 1: 0, 18, 36, 54, 72, 90, 109, 127, 145, 163, 181, 200.
     */
    private static final int[][] HEIGHTS = {
        {100, 100, 100, 100, 100, 100, 100, 100, 100, 100, 100, 100},
        {100, 82, 64, 46, 28, 10, -9, -27, -45, -63, -81, -100},
        {100, 64, 28, -9, -45, -81, -82, -46, -10, 27, 63, 100},
        {100, 46, -9, -63, -82, -28, 27, 81, 64, 10, -45, -100},
        {100, 28, -45, -82, -10, 63, 64, -9, -81, -46, 27, 100},
        {100, 10, -81, -28, 63, 46, -45, -64, 27, 82, -9, -100},
        {100, -9, -82, 27, 64, -45, -46, 63, 28, -81, -10, 100},
    };

    private PlateEdgesTest() {
    }

    public static void main(String[] arguments) {
        twelveColumnsAndRowsFromZero();
        columnIsToldAheadOfRow();
        tableOfHeightsIsRight();
        heightsOfWaves();
        numbersOfAWay();
        likeNumbersHavePlusAlone();
        thereAreFortyEightWays();
        waysOfLikeNotesGoByM();
        signIsInTheNote();
        swingIsCutTowardZero();
        swingIsWithoutASign();
        swingsOfAllWays();
        checks.end();
    }

    /** "12 columns and 12 rows of places, numbered from 0". */
    private static void twelveColumnsAndRowsFromZero() {
        int[][] on = {{0, 0}, {11, 0}, {0, 11}, {11, 11}};
        int[][] off = {{-1, 0}, {0, -1}, {12, 0}, {0, 12}, {-1, 11}, {11, -1}, {12, 11}, {11, 12}, {-1, -1}, {12, 12}};
        BowedPlate plate = new BowedPlate();
        for (int[] at : on) {
            checks.due("place(" + at[0] + ", " + at[1] + ", 0)", 5, plate.place(at[0], at[1], 0));
        }
        for (int[] at : off) {
            checks.due("place(" + at[0] + ", " + at[1] + ", 0)", -1, plate.place(at[0], at[1], 0));
            checks.due("swing(0, " + at[0] + ", " + at[1] + ")", -1, plate.swing(0, at[0], at[1]));
            checks.due("strew(" + at[0] + ", " + at[1] + ", 1)", -1, plate.strew(at[0], at[1], 1));
            checks.due("clamp(" + at[0] + ", " + at[1] + ")", -1, plate.clamp(at[0], at[1]));
        }
        checks.due("count(0)", 144 * 5, plate.count(0));
        checks.due("count(4)", 0, plate.count(4));
    }

    /** "a place is told by its column x and its row y". */
    private static void columnIsToldAheadOfRow() {
        BowedPlate plate = new BowedPlate();
        plate.strew(11, 0, 7);
        checks.due("place(11, 0, 0)", 12, plate.place(11, 0, 0));
        checks.due("place(0, 11, 0)", 5, plate.place(0, 11, 0));
        checks.due("place(0, 1, 0)", 5, plate.place(0, 1, 0));
        checks.due("the column 11", 67, plate.sand(false, 11));
        checks.due("the row 0", 67, plate.sand(true, 0));
        checks.due("the row 11", 60, plate.sand(true, 11));
        checks.due("the column 0", 60, plate.sand(false, 0));
        // w(1, 2) is 64, w(2, 2) is 28, w(1, 0) and w(2, 0) are 100
        checks.due("swing(6, 2, 0): (64 - 28) * 100 / 100", 36, plate.swing(6, 2, 0));
        checks.due("swing(6, 0, 2)", 36, plate.swing(6, 0, 2));
    }

    /** The way of m and n with a sign, found by what is told of it; -1 if there is none. */
    private static int wayOf(BowedPlate plate, int m, int n, int sign) {
        for (int way = 0; way < 48; way++) {
            if (plate.way(way, 0) == m && plate.way(way, 1) == n && plate.way(way, 2) == sign) {
                return way;
            }
        }
        return -1;
    }

    /** The table of this test against "100 - t if t is at most 200, otherwise t - 300". */
    private static void tableOfHeightsIsRight() {
        for (int k = 0; k <= 6; k++) {
            for (int z = 0; z <= 11; z++) {
                int t = 200 * k * z / 11;
                while (t >= 400) {
                    t -= 400;
                }
                checks.due("the table's w(" + k + ", " + z + ")", t > 200 ? t - 300 : 100 - t, HEIGHTS[k][z]);
            }
        }
    }

    /**
     * "A wave of the number k (0 to 6) has at the place z (0 to 11) the height w(k, z)", "rounded
     * down", "% 400": at the column 0 the way of 0 and k with plus swings by 100 + w(k, y).
     */
    private static void heightsOfWaves() {
        for (int k = 1; k <= 6; k++) {
            BowedPlate plate = new BowedPlate();
            int way = wayOf(plate, 0, k, 0);
            for (int z = 0; z < 12; z++) {
                checks.due("w(" + k + ", " + z + ")", HEIGHTS[k][z], plate.swing(way, 0, z) - 100);
                checks.due("w(" + k + ", " + z + ") by the column", HEIGHTS[k][z], plate.swing(way, z, 0) - 100);
            }
        }
    }

    /** "two numbers m and n, 0 to 6, m at most n, not both 0". */
    private static void numbersOfAWay() {
        boolean[][] found = new boolean[7][7];
        BowedPlate plate = new BowedPlate();
        for (int way = 0; way < 48; way++) {
            int m = plate.way(way, 0);
            int n = plate.way(way, 1);
            checks.holds("way " + way + " has m " + m + " and n " + n, m >= 0 && m <= n && n >= 1 && n <= 6);
            if (m >= 0 && m <= 6 && n >= 0 && n <= 6) {
                found[m][n] = true;
            }
        }
        for (int n = 1; n <= 6; n++) {
            for (int m = 0; m <= n; m++) {
                checks.holds("there is a way of " + m + " and " + n, found[m][n]);
            }
        }
        checks.holds("there is none of 0 and 0", !found[0][0]);
    }

    /** "a sign (0 for plus, 1 for minus; with like numbers plus alone)". */
    private static void likeNumbersHavePlusAlone() {
        for (int n = 1; n <= 6; n++) {
            for (int m = 0; m <= n; m++) {
                BowedPlate plate = new BowedPlate();
                checks.holds("plus of " + m + " and " + n, wayOf(plate, m, n, 0) >= 0);
                plate = new BowedPlate();
                checks.holds("minus of " + m + " and " + n, wayOf(plate, m, n, 1) >= 0 == (m < n));
            }
        }
    }

    /** "(There are 48 ways.)". */
    private static void thereAreFortyEightWays() {
        BowedPlate plate = new BowedPlate();
        checks.due("way(0, 3)", 10, plate.way(0, 3));
        checks.due("way(47, 3)", 720, plate.way(47, 3));
        checks.due("way(48, 3)", -1, plate.way(48, 3));
        checks.due("way(-1, 3)", -1, plate.way(-1, 3));
        checks.due("swing(47, 0, 0)", 200, plate.swing(47, 0, 0));
        checks.due("swing(48, 0, 0)", -1, plate.swing(48, 0, 0));
        checks.due("why(47, 0, 0)", 3, plate.why(47, 0, 0));
        checks.due("why(48, 0, 0)", -1, plate.why(48, 0, 0));
    }

    /** "Ways are ordered by their notes, of several by m". */
    private static void waysOfLikeNotesGoByM() {
        BowedPlate plate = new BowedPlate();
        for (int way = 1; way < 48; way++) {
            int before = plate.way(way - 1, 3);
            int note = plate.way(way, 3);
            checks.holds("the ways " + (way - 1) + " and " + way + " are in their order", before < note
                    || before == note && plate.way(way - 1, 0) < plate.way(way, 0));
        }
        // 0 and 5, 3 and 4 have one note, and with minus again one
        int[][] due = {{0, 5, 0, 250}, {3, 4, 0, 250}, {0, 5, 1, 251}, {3, 4, 1, 251}};
        for (int index = 0; index < due.length; index++) {
            for (int what = 0; what < 4; what++) {
                checks.due("way(" + (21 + index) + ", " + what + ")", due[index][what], plate.way(21 + index, what));
            }
        }
    }

    /** "Its note is 10 times (m * m + n * n), plus its sign". */
    private static void signIsInTheNote() {
        BowedPlate plate = new BowedPlate();
        checks.due("0, 1, plus", 10, plate.way(0, 3));
        checks.due("0, 1, minus", 11, plate.way(1, 3));
        checks.due("1, 1, plus", 20, plate.way(2, 3));
        checks.due("5, 6, plus", 610, plate.way(45, 3));
        checks.due("5, 6, minus", 611, plate.way(46, 3));
        checks.due("6, 6, plus", 720, plate.way(47, 3));
    }

    /** "cut to the whole number toward 0": neither rounded nor cut downward. */
    private static void swingIsCutTowardZero() {
        BowedPlate plate = new BowedPlate();
        // the way 2 swings by 2 * w(1, x) * w(1, y) / 100
        checks.due("2 * 10 * -9 / 100 is -1.8", 1, plate.swing(2, 5, 6));
        checks.due("2 * -9 * -9 / 100 is 1.62", 1, plate.swing(2, 6, 6));
        checks.due("2 * 10 * 10 / 100 is 2", 2, plate.swing(2, 5, 5));
        checks.due("2 * 10 * -45 / 100 is -9", 9, plate.swing(2, 5, 8));
        // the way 12 swings by (w(2, x) * w(3, y) + w(3, x) * w(2, y)) / 100
        checks.due("(-9 * -9 + -63 * 28) / 100 is -16.83", 16, plate.swing(12, 3, 2));
        checks.due("(-9 * -9 - -63 * 28) / 100 is 18.45", 18, plate.swing(13, 3, 2));
        // w(2, 3) is -9 and w(4, 7) is -9, w(4, 3) is -82, w(2, 7) is -46
        checks.due("(-9 * -9 - -82 * -46) / 100 is -36.91", 36, plate.swing(20, 3, 7));
        // w(6, 1) is -9, w(0, z) is 100: a sum that is nearly 0
        checks.due("(100 * -9 + 100 * 27) / 100 is 18", 18, plate.swing(32, 1, 3));
        checks.due("(100 * -9 + 100 * -9) / 100 is -18", 18, plate.swing(32, 1, 1));
        checks.due("(10 * -82 + -81 * -9) / 100 is -0.91", 0, plate.swing(5, 5, 6));
        checks.due("(-10 * -82 - -81 * -9) / 100 is 0.91", 0, plate.swing(20, 8, 3));
        checks.due("100 * 28 - 100 * 28 is 0", 0, plate.swing(1, 4, 4));
    }

    /** "its swing is this number without a sign". */
    private static void swingIsWithoutASign() {
        BowedPlate plate = new BowedPlate();
        checks.due("-200", 200, plate.swing(0, 11, 11));
        checks.due("200", 200, plate.swing(0, 0, 0));
        checks.due("100 - -100", 200, plate.swing(1, 11, 0));
        checks.due("-100 - 100", 200, plate.swing(1, 0, 11));
        checks.due("10 - -9", 19, plate.swing(1, 6, 5));
        checks.due("-9 - 10", 19, plate.swing(1, 5, 6));
    }

    /** Every way at every place, with the heights of the table. */
    private static void swingsOfAllWays() {
        for (int way = 0; way < 48; way++) {
            BowedPlate plate = new BowedPlate();
            int m = plate.way(way, 0);
            int n = plate.way(way, 1);
            boolean isMinus = plate.way(way, 2) == 1;
            for (int place = 0; place < 144; place++) {
                int x = place % 12;
                int y = place / 12;
                int one = HEIGHTS[m][x] * HEIGHTS[n][y];
                int other = HEIGHTS[n][x] * HEIGHTS[m][y];
                int hundredths = Math.abs(isMinus ? one - other : one + other);
                checks.due("swing(" + way + ", " + x + ", " + y + ")",
                        (hundredths - hundredths % 100) / 100, plate.swing(way, x, y));
            }
        }
    }
}
