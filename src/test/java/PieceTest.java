/** Promises 7, 9, 10 and 22: bowings that wait. */
public final class PieceTest {
    private static final Checks checks = new Checks("PieceTest");

    private PieceTest() {
    }

    public static void main(String[] arguments) {
        bow();
        bowChecksInOrder();
        strike();
        playTakesTheFirstOnes();
        playMoreThanWait();
        muteBowings();
        settingsOfNowDecide();
        wrongCallsOfPlay();
        waiting();
        checks.end();
    }

    private static void bow() {
        BowedPlate plate = new BowedPlate();
        checks.due("bow(0, 0, 1)", 1, plate.bow(0, 0, 1));
        checks.due("bow(3, 11, 20)", 2, plate.bow(3, 11, 20));
        checks.due("bow(2, 5, 7)", 3, plate.bow(2, 5, 7));
        int[][] due = {{0, 0, 1}, {3, 11, 20}, {2, 5, 7}};
        for (int place = 0; place < due.length; place++) {
            for (int what = 0; what < 3; what++) {
                checks.due("waiting(" + place + ", " + what + ")", due[place][what], plate.waiting(place, what));
            }
        }
        checks.due("count(5)", 3, plate.count(5));
        checks.due("count(15)", 3, plate.count(15));
        checks.due("count(6)", 0, plate.count(6));
    }

    private static void bowChecksInOrder() {
        BowedPlate plate = new BowedPlate();
        for (int bowing = 0; bowing < 16; bowing++) {
            checks.due("bow " + bowing, bowing + 1, plate.bow(bowing % 4, bowing % 12, 1 + bowing));
        }
        checks.due("full: bow(0, 0, 1)", -3, plate.bow(0, 0, 1));
        checks.due("full: bow(0, 0, 0)", -2, plate.bow(0, 0, 0));
        checks.due("full: bow(4, 0, 0)", -1, plate.bow(4, 0, 0));
        checks.due("full: bow(0, 12, 0)", -1, plate.bow(0, 12, 0));
        checks.due("count(5)", 16, plate.count(5));
        checks.due("the last one waits", 3, plate.waiting(15, 0));
        plate = new BowedPlate();
        for (int off : new int[] {Integer.MIN_VALUE, -1, Integer.MAX_VALUE}) {
            checks.due("bow(" + off + ", 0, 1)", -1, plate.bow(off, 0, 1));
            checks.due("bow(0, " + off + ", 1)", -1, plate.bow(0, off, 1));
            checks.due("bow(0, 0, " + off + ")", -2, plate.bow(0, 0, off));
        }
        checks.due("bow(4, 0, 1)", -1, plate.bow(4, 0, 1));
        checks.due("bow(0, 12, 1)", -1, plate.bow(0, 12, 1));
        checks.due("bow(0, 0, 21)", -2, plate.bow(0, 0, 21));
        checks.due("count(5) after errors", 0, plate.count(5));
        checks.due("count(15) after errors", 0, plate.count(15));
    }

    private static void strike() {
        BowedPlate plate = new BowedPlate();
        int[] sides = {1, 0, 1, 3, 1};
        for (int bowing = 0; bowing < sides.length; bowing++) {
            plate.bow(sides[bowing], bowing, 1 + bowing);
        }
        checks.due("strike(2)", -5, plate.strike(2));
        checks.due("strike(1)", 3, plate.strike(1));
        checks.due("count(5)", 2, plate.count(5));
        int[][] due = {{0, 1, 2}, {3, 3, 4}};
        for (int place = 0; place < due.length; place++) {
            for (int what = 0; what < 3; what++) {
                checks.due("waiting(" + place + ", " + what + ")", due[place][what], plate.waiting(place, what));
            }
        }
        checks.due("waiting(2, 0)", -5, plate.waiting(2, 0));
        checks.due("strike(1) again", -5, plate.strike(1));
        checks.due("strike(3)", 1, plate.strike(3));
        checks.due("the first one is left", 0, plate.waiting(0, 0));
        plate.undo();
        for (int side : new int[] {-1, 4, Integer.MIN_VALUE, Integer.MAX_VALUE}) {
            checks.due("strike(" + side + ")", -1, plate.strike(side));
        }
        checks.due("undo()", 2, plate.undo());
        checks.due("count(5) after undo", 5, plate.count(5));
        checks.due("strikes, strokes and mutes differ", 0, plate.count(6) + plate.count(7));
    }

    private static void playTakesTheFirstOnes() {
        BowedPlate plate = new BowedPlate();
        plate.bow(0, 0, 2);
        plate.bow(1, 0, 3);
        plate.bow(2, 3, 4);
        checks.due("play(1)", 1, plate.play(1));
        checks.due("count(5)", 2, plate.count(5));
        checks.due("the second is the first now", 1, plate.waiting(0, 0));
        checks.due("count(6)", 2, plate.count(6));
        checks.due("count(8)", 0, plate.count(8));
        checks.due("count(15)", 4, plate.count(15));
        // in the way 0 the corner (11, 0) does not swing: there the way 1 sounds
        checks.due("play(1)", 1, plate.play(1));
        checks.due("count(8)", 1, plate.count(8));
        checks.due("count(6)", 5, plate.count(6));
        checks.due("play(1)", 1, plate.play(1));
        checks.due("play(1) of none", -5, plate.play(1));
    }

    private static void playMoreThanWait() {
        BowedPlate plate = new BowedPlate();
        plate.bow(0, 0, 2);
        plate.bow(1, 0, 3);
        checks.due("play(16)", 2, plate.play(16));
        checks.due("count(5)", 0, plate.count(5));
        checks.due("count(6)", 5, plate.count(6));
        checks.due("count(7)", 0, plate.count(7));
        checks.due("count(15): play is one act", 3, plate.count(15));
        checks.due("undo()", 2, plate.undo());
        checks.due("count(5) after undo", 2, plate.count(5));
        checks.due("count(6) after undo", 0, plate.count(6));
        checks.due("count(8) after undo", -5, plate.count(8));
        checks.due("count(0) after undo", 720, plate.count(0));
    }

    private static void muteBowings() {
        // at the corner with a clamp on it no way swings by more than 20
        BowedPlate plate = new BowedPlate();
        plate.bow(0, 0, 2);
        plate.play(1);
        int left = plate.count(0);
        plate.clamp(11, 0);
        plate.bow(1, 0, 9);
        checks.due("waiting(0, 3)", -5, plate.waiting(0, 3));
        checks.due("play(1)", 0, plate.play(1));
        checks.due("count(7)", 1, plate.count(7));
        checks.due("count(6)", 2, plate.count(6));
        checks.due("count(8): mute ones leave it", 0, plate.count(8));
        checks.due("count(0)", left, plate.count(0));
        checks.due("count(5)", 0, plate.count(5));
        checks.due("count(15)", 4, plate.count(15));
        checks.due("undo()", 3, plate.undo());
        checks.due("count(7) after undo", 0, plate.count(7));
        checks.due("count(5) after undo", 1, plate.count(5));
        plate.bow(0, 11, 1);
        plate.bow(0, 0, 3);
        checks.due("play(3): two of three are mute", 1, plate.play(3));
        checks.due("count(7)", 2, plate.count(7));
        checks.due("count(6)", 5, plate.count(6));
    }

    private static void settingsOfNowDecide() {
        BowedPlate plate = new BowedPlate();
        plate.bow(0, 6, 1);
        checks.due("waiting(0, 3)", 0, plate.waiting(0, 3));
        // at (6, 0) the way 0 swings by 91, the way 1 by 109
        plate.set(1, 92);
        checks.due("waiting(0, 3)", 1, plate.waiting(0, 3));
        plate.play(1);
        checks.due("count(8)", 1, plate.count(8));
    }

    private static void wrongCallsOfPlay() {
        BowedPlate plate = new BowedPlate();
        for (int bowings : new int[] {0, -1, 17, Integer.MIN_VALUE, Integer.MAX_VALUE}) {
            checks.due("none waits: play(" + bowings + ")", -2, plate.play(bowings));
        }
        checks.due("play(1) of none", -5, plate.play(1));
        checks.due("play(16) of none", -5, plate.play(16));
        plate.bow(0, 0, 1);
        checks.due("play(0)", -2, plate.play(0));
        checks.due("play(17)", -2, plate.play(17));
        checks.due("count(5)", 1, plate.count(5));
        checks.due("count(15)", 1, plate.count(15));
    }

    private static void waiting() {
        BowedPlate plate = new BowedPlate();
        plate.bow(1, 4, 13);
        plate.bow(2, 11, 1);
        checks.due("waiting(0, 0)", 1, plate.waiting(0, 0));
        checks.due("waiting(0, 1)", 4, plate.waiting(0, 1));
        checks.due("waiting(0, 2)", 13, plate.waiting(0, 2));
        // at (11, 4) the way 0 swings by 72
        checks.due("waiting(0, 3)", 0, plate.waiting(0, 3));
        checks.due("waiting(1, 3)", 0, plate.waiting(1, 3));
        for (int off : new int[] {-1, Integer.MIN_VALUE}) {
            checks.due("waiting(" + off + ", 0)", -2, plate.waiting(off, 0));
            checks.due("waiting(0, " + off + ")", -2, plate.waiting(0, off));
        }
        checks.due("waiting(0, 4)", -2, plate.waiting(0, 4));
        checks.due("waiting(0, greatest)", -2, plate.waiting(0, Integer.MAX_VALUE));
        checks.due("waiting(2, 4): what ahead of none", -2, plate.waiting(2, 4));
        checks.due("waiting(2, -1): what ahead of none", -2, plate.waiting(2, -1));
        checks.due("waiting(2, 0)", -5, plate.waiting(2, 0));
        checks.due("waiting(16, 3)", -5, plate.waiting(16, 3));
        checks.due("waiting(greatest, 3)", -5, plate.waiting(Integer.MAX_VALUE, 3));
    }
}
