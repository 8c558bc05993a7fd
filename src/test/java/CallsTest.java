/** "An object is used for at most 512 calls": all 512 of them are answered, of the dearest kinds too. */
public final class CallsTest {
    private static final int CALLS = 512;

    private static final Checks checks = new Checks("CallsTest");

    private CallsTest() {
    }

    public static void main(String[] arguments) {
        strewnAtOnePlace();
        sweptAgainAndAgain();
        playedAgainAndAgain();
        undoneAgainAndAgain();
        restoredAgainAndAgain();
        typedAgainAndAgain();
        askedAgainAndAgain();
        refusedAgainAndAgain();
        objectsAreTheirOwn();
        checks.end();
    }

    private static void strewnAtOnePlace() {
        BowedPlate plate = new BowedPlate();
        for (int call = 1; call <= CALLS; call++) {
            checks.due("strew " + call, 5 + 99 * call, plate.strew(7, 0, 99));
        }
        plate = new BowedPlate();
        for (int call = 1; call < CALLS; call++) {
            plate.strew(7, 0, 99);
        }
        checks.due("count(1) as the last call", 720 + 99 * 511, plate.count(1));
    }

    private static void sweptAgainAndAgain() {
        for (int what = 0; what < 3; what++) {
            BowedPlate plate = new BowedPlate();
            for (int call = 1; call < CALLS; call++) {
                checks.due("sweep " + call, call == 1 ? 720 : 144 * 99, plate.sweep(99));
            }
            int[] due = {144 * 99, 720 + 511 * 144 * 99, 720 + 510 * 144 * 99};
            checks.due("count(" + what + ") as the last call", due[what], plate.count(what));
        }
    }

    private static void playedAgainAndAgain() {
        BowedPlate plate = new BowedPlate();
        plate.set(3, 50);
        for (int round = 0; round < 30; round++) {
            for (int bowing = 0; bowing < 16; bowing++) {
                checks.due("bow", bowing + 1, plate.bow(bowing % 4, (round + bowing) % 12, 20));
            }
            checks.due("play(16)", 16, plate.play(16));
        }
        checks.due("count(6) as the last call", 30 * 16 * 20, plate.count(6));
    }

    private static void undoneAgainAndAgain() {
        BowedPlate plate = new BowedPlate();
        plate.strew(0, 0, 1);
        for (int call = 1; call < CALLS; call++) {
            if (call % 2 == 1) {
                checks.due("undo in call " + call, 0, plate.undo());
            } else {
                checks.due("strew in call " + call, 6, plate.strew(0, 0, 1));
            }
        }
        plate = new BowedPlate();
        for (int call = 0; call < CALLS; call++) {
            checks.due("undo of none in call " + call, -5, plate.undo());
        }
    }

    private static void restoredAgainAndAgain() {
        BowedPlate plate = new BowedPlate();
        plate.keep();
        plate.sweep(8);
        for (int call = 2; call < CALLS; call++) {
            checks.due("restore in call " + call, 720, plate.restore());
        }
        plate = new BowedPlate();
        for (int call = 0; call < CALLS; call++) {
            checks.due("keep in call " + call, 720, plate.keep());
        }
    }

    private static void typedAgainAndAgain() {
        BowedPlate plate = new BowedPlate();
        for (int call = 1; call <= CALLS; call++) {
            checks.due("type in call " + call, call <= 60 ? call : -3, plate.type('t'));
        }
        plate = new BowedPlate();
        for (int call = 0; call < CALLS; call++) {
            if (call % 2 == 0) {
                checks.due("type in call " + call, 1, plate.type('t'));
            } else {
                checks.due("clearText in call " + call, 1, plate.clearText());
            }
        }
        plate = Run.of().typed("t1,r2,b3").plate();
        for (int call = 8; call < CALLS; call++) {
            int round = (call - 8) % 6;
            int due = round < 5 ? 3 : 15;
            checks.due("bowAll or play in call " + call, due, round < 5 ? plate.bowAll() : plate.play(16));
        }
    }

    private static void askedAgainAndAgain() {
        for (int what = 0; what < 17; what++) {
            BowedPlate plate = new BowedPlate();
            int due = plate.count(what);
            for (int call = 1; call < CALLS; call++) {
                checks.due("count(" + what + ") in call " + call, due, plate.count(what));
            }
        }
        BowedPlate plate = new BowedPlate();
        for (int call = 0; call < CALLS; call++) {
            checks.due("possible(1) in call " + call, 1, plate.possible(1));
        }
        plate = new BowedPlate();
        for (int call = 0; call < CALLS; call++) {
            checks.due("way(1, 5) in call " + call, 12, plate.way(1, 5));
        }
    }

    private static void refusedAgainAndAgain() {
        BowedPlate plate = Run.of().times(16, p -> p.bow(0, 0, 1)).plate();
        for (int call = 16; call < CALLS; call++) {
            checks.due("bow in call " + call, -3, plate.bow(0, 0, 1));
        }
        plate = Run.of().times(4, p -> p.clamp(p.count(4), 0)).plate();
        for (int call = 8; call < CALLS; call++) {
            checks.due("clamp in call " + call, -3, plate.clamp(5, 5));
        }
    }

    /** What one object does is not seen by another one. */
    private static void objectsAreTheirOwn() {
        BowedPlate one = new BowedPlate();
        BowedPlate other = new BowedPlate();
        one.clamp(1, 1);
        one.set(0, 3);
        one.type('t');
        one.keep();
        one.bow(0, 0, 1);
        one.sweep(1);
        int[] due = {720, 720, 0, 0, 0, 0, 0, 0, -5, 2, 5, 20, 60, 15, 150, 0, 0};
        for (int what = 0; what < due.length; what++) {
            checks.due("the other one's count(" + what + ")", due[what], other.count(what));
        }
        checks.due("the other one's restore()", -5, other.restore());
        checks.due("the other one's undo()", -5, other.undo());
        checks.due("the one's restore()", 720, one.restore());
    }
}
