/** Promises 4 to 6 and 25: clamps and settings. */
public final class ClampsTest {
    private static final Checks checks = new Checks("ClampsTest");

    private ClampsTest() {
    }

    public static void main(String[] arguments) {
        clamp();
        clampChecksInOrder();
        unclamp();
        clampAt();
        set();
        settingsHaveTheirRanges();
        checks.end();
    }

    private static void clamp() {
        BowedPlate plate = new BowedPlate();
        checks.due("clamp(3, 7)", 1, plate.clamp(3, 7));
        checks.due("clamp(7, 3)", 2, plate.clamp(7, 3));
        checks.due("clamp(3, 7) again", -5, plate.clamp(3, 7));
        checks.due("count(4)", 2, plate.count(4));
        checks.due("count(15)", 2, plate.count(15));
        checks.due("place(3, 7, 3)", 0, plate.place(3, 7, 3));
        checks.due("place(7, 3, 3)", 1, plate.place(7, 3, 3));
        checks.due("place(7, 7, 3)", -5, plate.place(7, 7, 3));
        checks.due("clamp(0, 0)", 3, plate.clamp(0, 0));
        checks.due("clamp(11, 11)", 4, plate.clamp(11, 11));
    }

    private static void clampChecksInOrder() {
        BowedPlate plate = fourClamps();
        checks.due("full: clamp(12, 0)", -1, plate.clamp(12, 0));
        checks.due("full: clamp(0, -1)", -1, plate.clamp(0, -1));
        checks.due("full: clamp at a clamp", -3, plate.clamp(1, 2));
        checks.due("full: clamp elsewhere", -3, plate.clamp(9, 9));
        checks.due("count(4)", 4, plate.count(4));
        for (int off : new int[] {-1, 12, Integer.MIN_VALUE, Integer.MAX_VALUE}) {
            checks.due("clamp(" + off + ", 0)", -1, plate.clamp(off, 0));
            checks.due("clamp(0, " + off + ")", -1, plate.clamp(0, off));
        }
    }

    private static BowedPlate fourClamps() {
        BowedPlate plate = new BowedPlate();
        plate.clamp(1, 2);
        plate.clamp(3, 4);
        plate.clamp(5, 6);
        plate.clamp(7, 8);
        return plate;
    }

    private static void unclamp() {
        BowedPlate plate = fourClamps();
        checks.due("unclamp(4)", -1, plate.unclamp(4));
        checks.due("unclamp(-1)", -1, plate.unclamp(-1));
        checks.due("unclamp(1)", 3, plate.unclamp(1));
        checks.due("the one behind is 1 now", 5, plate.clampAt(1, false));
        checks.due("place(7, 8, 3)", 2, plate.place(7, 8, 3));
        checks.due("place(3, 4, 3)", -5, plate.place(3, 4, 3));
        checks.due("unclamp(3)", -1, plate.unclamp(3));
        checks.due("clamp(3, 4) goes behind", 4, plate.clamp(3, 4));
        checks.due("place(3, 4, 3)", 3, plate.place(3, 4, 3));
        checks.due("unclamp(3)", 3, plate.unclamp(3));
        checks.due("unclamp(0)", 2, plate.unclamp(0));
        checks.due("unclamp(0)", 1, plate.unclamp(0));
        checks.due("the last one", 8, plate.clampAt(0, true));
        checks.due("unclamp(0)", 0, plate.unclamp(0));
        checks.due("unclamp(0) of none", -1, plate.unclamp(0));
        checks.due("unclamp of the least number", -1, plate.unclamp(Integer.MIN_VALUE));
        checks.due("unclamp of the greatest number", -1, plate.unclamp(Integer.MAX_VALUE));
        checks.due("count(4)", 0, plate.count(4));
    }

    private static void clampAt() {
        BowedPlate plate = fourClamps();
        for (int clamp = 0; clamp < 4; clamp++) {
            checks.due("clampAt(" + clamp + ", false)", 1 + 2 * clamp, plate.clampAt(clamp, false));
            checks.due("clampAt(" + clamp + ", true)", 2 + 2 * clamp, plate.clampAt(clamp, true));
        }
        for (int clamp : new int[] {-1, 4, Integer.MIN_VALUE, Integer.MAX_VALUE}) {
            checks.due("clampAt(" + clamp + ", true)", -1, plate.clampAt(clamp, true));
            checks.due("clampAt(" + clamp + ", false)", -1, plate.clampAt(clamp, false));
        }
        plate.unclamp(3);
        checks.due("clampAt(3, true) of one taken away", -1, plate.clampAt(3, true));
    }

    private static void set() {
        BowedPlate plate = new BowedPlate();
        checks.due("set(0, 30)", 20, plate.set(0, 30));
        checks.due("set(0, 40)", 30, plate.set(0, 40));
        checks.due("set(0, 40) again", -5, plate.set(0, 40));
        checks.due("set(1, 61)", 60, plate.set(1, 61));
        checks.due("count(15)", 3, plate.count(15));
        checks.due("count(11)", 40, plate.count(11));
        checks.due("count(12)", 61, plate.count(12));
        checks.due("count(13)", 15, plate.count(13));
        checks.due("count(14)", 150, plate.count(14));
        for (int which : new int[] {-1, 4, Integer.MIN_VALUE, Integer.MAX_VALUE}) {
            checks.due("set(" + which + ", 55)", -2, plate.set(which, 55));
        }
    }

    private static void settingsHaveTheirRanges() {
        int[][] ranges = {{0, 60}, {1, 150}, {0, 60}, {50, 201}};
        int[] first = {20, 60, 15, 150};
        for (int which = 0; which < 4; which++) {
            BowedPlate plate = new BowedPlate();
            int least = ranges[which][0];
            int most = ranges[which][1];
            String start = "set(" + which + ", ";
            checks.due(start + "below)", -2, plate.set(which, least - 1));
            checks.due(start + "above)", -2, plate.set(which, most + 1));
            checks.due(start + "far below)", -2, plate.set(which, Integer.MIN_VALUE));
            checks.due(start + "far above)", -2, plate.set(which, Integer.MAX_VALUE));
            checks.due(start + "first)", -5, plate.set(which, first[which]));
            checks.due("nothing is recorded", 0, plate.count(15));
            checks.due(start + "least)", first[which], plate.set(which, least));
            checks.due(start + "most)", least, plate.set(which, most));
            checks.due("count of it", most, plate.count(11 + which));
        }
    }
}
