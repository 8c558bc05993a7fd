/** Promise 24: what is counted. */
public final class CountTest {
    private static final Checks checks = new Checks("CountTest");

    private CountTest() {
    }

    public static void main(String[] arguments) {
        aRunOfAll();
        grainsThatWereStrewnAreSomewhere();
        mostGrainsAtAnyPlace();
        wrongCalls();
        checks.end();
    }

    private static void aRunOfAll() {
        BowedPlate plate = new BowedPlate();
        plate.set(0, 21);
        plate.set(1, 62);
        plate.set(2, 3);
        plate.set(3, 201);
        plate.sweep(2);
        plate.strew(2, 3, 40);
        plate.clamp(5, 6);
        plate.clamp(6, 5);
        plate.type('a');
        plate.type('b');
        plate.type('c');
        // at (5, 6) and (6, 5) the way 0 swings by 1; at the corner (0, 0) by 200
        plate.bow(0, 0, 6);
        plate.bow(0, 0, 7);
        plate.bow(2, 2, 1);
        plate.play(2);
        int[] due = {
            288 + 40, 720 + 288 + 40, 720, 0, 2, 1, 13, 0, 0,
        };
        for (int what = 0; what < due.length; what++) {
            checks.due("count(" + what + ")", due[what], plate.count(what));
        }
        int most = 0;
        for (int place = 0; place < 144; place++) {
            most = Math.max(most, plate.place(place % 12, place / 12, 0));
        }
        checks.due("count(10)", most, plate.count(10));
        int[] dueLater = {21, 62, 3, 201, 4, 3};
        for (int what = 11; what < 17; what++) {
            checks.due("count(" + what + ")", dueLater[what - 11], plate.count(what));
        }
    }

    private static void grainsThatWereStrewnAreSomewhere() {
        BowedPlate plate = new BowedPlate();
        plate.set(3, 50);
        for (int bowing = 0; bowing < 16; bowing++) {
            plate.bow(bowing % 4, bowing % 12, 1 + bowing);
            plate.strew(bowing % 12, 0, 50);
        }
        for (int bowing = 0; bowing < 16; bowing++) {
            plate.play(1);
            if (bowing == 8) {
                plate.sweep(4);
            }
            checks.due("strewn are on the plate, swept off or fallen", plate.count(1),
                    plate.count(0) + plate.count(2) + plate.count(3));
            checks.holds("some fall", plate.count(3) > 0);
        }
        checks.due("count(6)", 136, plate.count(6));
        checks.due("count(7)", 0, plate.count(7));
        int rows = 0;
        int columns = 0;
        for (int line = 0; line < 12; line++) {
            rows += plate.sand(true, line);
            columns += plate.sand(false, line);
        }
        checks.due("sum of the rows", plate.count(0), rows);
        checks.due("sum of the columns", plate.count(0), columns);
    }

    private static void mostGrainsAtAnyPlace() {
        for (int place = 0; place < 144; place++) {
            BowedPlate plate = new BowedPlate();
            plate.strew(place % 12, place / 12, 1);
            checks.due("count(10) with the most at place " + place, 6, plate.count(10));
        }
    }

    private static void wrongCalls() {
        BowedPlate plate = new BowedPlate();
        for (int what : new int[] {-1, 17, Integer.MIN_VALUE, Integer.MAX_VALUE}) {
            checks.due("count(" + what + ")", -2, plate.count(what));
        }
    }
}
