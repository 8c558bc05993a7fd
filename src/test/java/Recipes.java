/** For each way, settings, clamps and a bow with which it sounds. */
final class Recipes {
    /** The settings 0 and 1, the side and the place along it, and the clamps' columns and rows. */
    private static final int[][] ROWS = {
        {20, 60, 0, 0}, {20, 60, 0, 8}, {20, 60, 0, 0, 5, 0},
        {20, 60, 0, 0, 5, 0, 4, 1}, {20, 60, 0, 2, 0, 0}, {20, 60, 0, 0, 4, 0},
        {20, 60, 0, 4, 0, 0, 7, 0}, {20, 60, 0, 0, 3, 0}, {20, 60, 0, 8, 4, 0},
        {20, 60, 0, 2, 0, 0, 7, 0}, {20, 60, 0, 0, 3, 0, 5, 0}, {20, 60, 0, 7, 0, 0, 5, 2},
        {20, 60, 0, 0, 2, 0}, {20, 60, 0, 6, 0, 0, 9, 0}, {20, 60, 0, 0, 3, 0, 2, 1},
        {20, 60, 0, 1, 0, 0}, {20, 60, 0, 8, 2, 0}, {20, 60, 0, 2, 0, 0, 9, 0},
        {20, 60, 0, 7, 2, 0}, {20, 60, 0, 0, 2, 0, 5, 0}, {20, 60, 0, 5, 0, 0, 4, 1},
        {20, 60, 0, 10, 2, 0, 11, 0}, {20, 60, 0, 3, 8, 0}, {20, 60, 0, 1, 0, 0, 9, 0},
        {20, 60, 0, 4, 0, 0, 3, 0}, {20, 60, 0, 0, 2, 0, 3, 0}, {20, 60, 0, 1, 0, 0, 3, 2},
        {20, 60, 0, 0, 4, 0, 8, 0}, {20, 60, 0, 2, 0, 0, 3, 0}, {20, 60, 0, 3, 4, 0},
        {20, 60, 0, 0, 4, 0, 5, 0}, {20, 60, 0, 6, 0, 0, 3, 1}, {20, 60, 0, 3, 2, 0, 8, 1},
        {20, 100, 0, 1, 0, 0}, {20, 60, 0, 3, 2, 0, 8, 0}, {20, 60, 0, 1, 0, 0, 3, 0},
        {20, 60, 0, 0, 3, 0, 4, 0}, {20, 60, 0, 1, 0, 0, 3, 1}, {20, 60, 0, 5, 6, 0},
        {20, 60, 0, 4, 0, 0, 5, 0}, {20, 60, 0, 5, 4, 0, 6, 0}, {20, 60, 0, 2, 0, 0, 5, 0},
        {20, 60, 0, 0, 1, 0}, {20, 60, 0, 0, 1, 0, 5, 0}, {20, 60, 0, 3, 0, 0, 5, 1},
        {20, 60, 0, 0, 1, 0, 3, 0}, {20, 60, 0, 5, 0, 0, 2, 0}, {4, 60, 0, 0, 1, 1, 3, 1},
    };

    private Recipes() {
    }

    static int side(int way) {
        return ROWS[way][2];
    }

    static int along(int way) {
        return ROWS[way][3];
    }

    /** The settings and the clamps, on a new object. */
    static Run ready(int way) {
        int[] row = ROWS[way];
        Run run = Run.of(plate -> plate.set(0, row[0]), plate -> plate.set(1, row[1]));
        for (int index = 4; index < row.length; index += 2) {
            int x = row[index];
            int y = row[index + 1];
            run = run.then(plate -> plate.clamp(x, y));
        }
        return run;
    }

    /** So many strokes, behind ready(way). */
    static Run strokes(int way, int strokes) {
        return Run.of(plate -> plate.bow(side(way), along(way), strokes), plate -> plate.play(1));
    }
}
