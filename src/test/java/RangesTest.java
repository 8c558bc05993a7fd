import java.util.function.IntFunction;
import java.util.function.IntUnaryOperator;

/**
 * Promises 2 to 10 and 16 to 25: each argument's range. Every value inside it has its own answer,
 * the first and the last one too; the next one on either side and the farthest ones have the error.
 */
public final class RangesTest {
    private static final Checks checks = new Checks("RangesTest");

    private static final int[] FIRST_SETTINGS = {20, 60, 15, 150};
    private static final int[][] SETTING_RANGES = {{0, 60}, {1, 150}, {0, 60}, {50, 201}};

    // the heights of the wave 1 at the places 0 to 11
    private static final int[] WAVE_1 = {100, 82, 64, 46, 28, 10, -9, -27, -45, -63, -81, -100};

    private RangesTest() {
    }

    public static void main(String[] arguments) {
        strew();
        sweep();
        clamp();
        unclamp();
        set();
        bow();
        strike();
        play();
        place();
        way();
        swing();
        sounds();
        why();
        possible();
        waiting();
        sand();
        count();
        clampAt();
        checks.end();
    }

    /** An argument's range, its error outside, and behind a run its answers inside. */
    private static void range(String call, int least, int most, int error, Run run,
            IntFunction<Run.Call> calls, IntUnaryOperator due) {
        for (int value = least; value <= most; value++) {
            answers(call, value, due.applyAsInt(value), run, calls);
        }
        for (int value : new int[] {least - 1, most + 1, Integer.MIN_VALUE, Integer.MAX_VALUE}) {
            answers(call, value, error, run, calls);
        }
    }

    private static void answers(String call, int value, int due, Run run, IntFunction<Run.Call> calls) {
        checks.due(call.replace("#", Integer.toString(value)), due, run.answer(calls.apply(value)));
    }

    private static void strew() {
        Run run = Run.of();
        range("strew(#, 3, 4)", 0, 11, -1, run, x -> plate -> plate.strew(x, 3, 4), x -> 9);
        range("strew(3, #, 4)", 0, 11, -1, run, y -> plate -> plate.strew(3, y, 4), y -> 9);
        range("strew(3, 4, #)", 1, 99, -2, run, grains -> plate -> plate.strew(3, 4, grains), grains -> 5 + grains);
        for (int number = 0; number < 12; number++) {
            int line = number;
            Run strewn = run.then(plate -> plate.strew(line, 11 - line, 4));
            checks.due("the place that was strewn", 9, strewn.answer(plate -> plate.place(line, 11 - line, 0)));
            checks.due("the column that was strewn", 64, strewn.answer(plate -> plate.sand(false, line)));
            checks.due("the row that was strewn", 64, strewn.answer(plate -> plate.sand(true, 11 - line)));
        }
    }

    private static void sweep() {
        range("sweep(#)", 0, 99, -2, Run.of(), grains -> plate -> plate.sweep(grains), grains -> 720);
        range("sweep(#), sweep(0)", 0, 99, -2, Run.of(),
                grains -> plate -> plate.sweep(grains) < 0 ? -2 : plate.sweep(0), grains -> 144 * grains);
    }

    private static void clamp() {
        range("clamp(#, 3)", 0, 11, -1, Run.of(), x -> plate -> plate.clamp(x, 3), x -> 1);
        range("clamp(3, #)", 0, 11, -1, Run.of(), y -> plate -> plate.clamp(3, y), y -> 1);
        range("clamp(#, 3), clampAt(0, false)", 0, 11, -1, Run.of(),
                x -> plate -> plate.clamp(x, 3) < 0 ? -1 : plate.clampAt(0, false), x -> x);
        range("clamp(3, #), clampAt(0, true)", 0, 11, -1, Run.of(),
                y -> plate -> plate.clamp(3, y) < 0 ? -1 : plate.clampAt(0, true), y -> y);
    }

    private static Run clamps(int clamps) {
        Run run = Run.of();
        for (int number = 0; number < clamps; number++) {
            int clamp = number;
            run = run.then(plate -> plate.clamp(clamp, 11 - clamp));
        }
        return run;
    }

    private static void unclamp() {
        for (int number = 0; number <= 4; number++) {
            int clamps = number;
            range(clamps + " clamps: unclamp(#)", 0, clamps - 1, -1, clamps(clamps),
                    clamp -> plate -> plate.unclamp(clamp), clamp -> clamps - 1);
        }
    }

    private static void set() {
        range("set(#, 55)", 0, 3, -2, Run.of(), which -> plate -> plate.set(which, 55), which -> FIRST_SETTINGS[which]);
        for (int number = 0; number < 4; number++) {
            int which = number;
            int first = FIRST_SETTINGS[which];
            int least = SETTING_RANGES[which][0];
            int most = SETTING_RANGES[which][1];
            range("set(" + which + ", #)", least, most, -2, Run.of(), value -> plate -> plate.set(which, value),
                    value -> value == first ? -5 : first);
            range("set(" + which + ", #), count of it", least, most, -2, Run.of(),
                    value -> plate -> plate.set(which, value) == -2 ? -2 : plate.count(11 + which), value -> value);
        }
    }

    private static void bow() {
        range("bow(#, 5, 6)", 0, 3, -1, Run.of(), side -> plate -> plate.bow(side, 5, 6), side -> 1);
        range("bow(2, #, 6)", 0, 11, -1, Run.of(), along -> plate -> plate.bow(2, along, 6), along -> 1);
        range("bow(2, 5, #)", 1, 20, -2, Run.of(), strokes -> plate -> plate.bow(2, 5, strokes), strokes -> 1);
        range("bow(#, 5, 6), waiting(0, 0)", 0, 3, -1, Run.of(),
                side -> plate -> plate.bow(side, 5, 6) < 0 ? -1 : plate.waiting(0, 0), side -> side);
        range("bow(2, #, 6), waiting(0, 1)", 0, 11, -1, Run.of(),
                along -> plate -> plate.bow(2, along, 6) < 0 ? -1 : plate.waiting(0, 1), along -> along);
        range("bow(2, 5, #), waiting(0, 2)", 1, 20, -2, Run.of(),
                strokes -> plate -> plate.bow(2, 5, strokes) < 0 ? -2 : plate.waiting(0, 2), strokes -> strokes);
    }

    /** At each side one bowing more than at the side before it. */
    private static Run oneToFourBowings() {
        Run run = Run.of();
        for (int number = 0; number < 4; number++) {
            int side = number;
            run = run.times(side + 1, plate -> plate.bow(side, 0, 2));
        }
        return run;
    }

    private static void strike() {
        range("strike(#)", 0, 3, -1, oneToFourBowings(), side -> plate -> plate.strike(side), side -> side + 1);
    }

    private static void play() {
        Run full = Run.of().times(16, plate -> plate.bow(0, 0, 1));
        range("16 wait: play(#)", 1, 16, -2, full, bowings -> plate -> plate.play(bowings), bowings -> bowings);
        range("16 wait: play(#), count(5)", 1, 16, -2, full,
                bowings -> plate -> plate.play(bowings) < 0 ? -2 : plate.count(5), bowings -> 16 - bowings);
        Run three = Run.of().times(3, plate -> plate.bow(0, 0, 1));
        range("3 wait: play(#)", 1, 16, -2, three, bowings -> plate -> plate.play(bowings),
                bowings -> Math.min(bowings, 3));
        range("none waits: play(#)", 1, 16, -2, Run.of(), bowings -> plate -> plate.play(bowings), bowings -> -5);
    }

    private static void place() {
        Run run = Run.of(plate -> plate.clamp(5, 6), plate -> plate.set(3, 201), plate -> plate.bow(0, 0, 1),
                plate -> plate.sweep(7), plate -> plate.play(1), plate -> plate.sweep(7));
        range("place(#, 4, 0)", 0, 11, -1, run, x -> plate -> plate.place(x, 4, 0), x -> 7);
        range("place(4, #, 0)", 0, 11, -1, run, y -> plate -> plate.place(4, y, 0), y -> 7);
        range("place(#, 4, 1)", 0, 11, -1, run, x -> plate -> plate.place(x, 4, 1), x -> Math.abs(WAVE_1[x] + 28));
        range("place(4, #, 1)", 0, 11, -1, run, y -> plate -> plate.place(4, y, 1), y -> Math.abs(WAVE_1[y] + 28));
        // |-27 + 28| is 1, |-9 + 28| is 19, |-45 + 28| is 17
        range("place(#, 4, 2)", 0, 11, -1, run, x -> plate -> plate.place(x, 4, 2), x -> x == 7 ? 1 : 0);
        range("place(#, 6, 3)", 0, 11, -1, run, x -> plate -> plate.place(x, 6, 3), x -> x == 5 ? 0 : -5);
        range("place(5, #, 3)", 0, 11, -1, run, y -> plate -> plate.place(5, y, 3), y -> y == 6 ? 0 : -5);
        int[] due = {7, 1, 1, 0};
        range("place(5, 6, #)", 0, 3, -2, run, what -> plate -> plate.place(5, 6, what), what -> due[what]);
        int[] dueOfNew = {5, -5, -5, -5};
        range("new: place(5, 6, #)", 0, 3, -2, Run.of(), what -> plate -> plate.place(5, 6, what), what -> dueOfNew[what]);
    }

    private static void way() {
        // the way 0 is still where the column and the row add up to 11; 5 grains lie on each place
        int[] ofTheFirst = {0, 1, 0, 10, 12, 12, 60, 1};
        range("way(0, #)", 0, 7, -2, Run.of(), what -> plate -> plate.way(0, what), what -> ofTheFirst[what]);
        int[] ofTheLast = {6, 6, 0, 720};
        range("way(47, #) below 4", 0, 7, -2, Run.of(), what -> plate -> what < 0 || what > 3
                ? plate.way(47, what) < 0 ? -2 : 0 : plate.way(47, what), what -> what < 4 ? ofTheLast[what] : 0);
        range("way(#, 7)", 0, 47, -1, Run.of(), way -> plate -> plate.way(way, 7), way -> 1);
        // at a corner of like numbers each plus swings by 200 and each minus by 0
        Run clamped = Run.of(plate -> plate.clamp(0, 0));
        range("a clamp at (0, 0): way(#, 7) with its sign", 0, 47, -1, clamped,
                way -> plate -> way < 0 || way > 47 ? plate.way(way, 7) : plate.way(way, 7) - plate.way(way, 2),
                way -> 0);
    }

    private static void swing() {
        range("swing(#, 0, 0) with its sign", 0, 47, -1, Run.of(),
                way -> plate -> way < 0 || way > 47 ? plate.swing(way, 0, 0)
                        : plate.swing(way, 0, 0) + 200 * plate.way(way, 2), way -> 200);
        range("swing(0, #, 4)", 0, 11, -1, Run.of(), x -> plate -> plate.swing(0, x, 4), x -> Math.abs(WAVE_1[x] + 28));
        range("swing(0, 4, #)", 0, 11, -1, Run.of(), y -> plate -> plate.swing(0, 4, y), y -> Math.abs(WAVE_1[y] + 28));
    }

    /** Without clamps the way 0 sounds where it swings by 60 or more, elsewhere the way 1. */
    private static int firstWay(int side, int along) {
        int across = side == 0 || side == 3 ? 100 : -100;
        return Math.abs(WAVE_1[along] + across) >= 60 ? 0 : 1;
    }

    private static void sounds() {
        range("sounds(#, 9)", 0, 3, -1, Run.of(), side -> plate -> plate.sounds(side, 9), side -> firstWay(side, 9));
        for (int number = 0; number < 4; number++) {
            int side = number;
            range("sounds(" + side + ", #)", 0, 11, -1, Run.of(), along -> plate -> plate.sounds(side, along),
                    along -> firstWay(side, along));
        }
    }

    private static void why() {
        // the way 0 swings by 200 at the corner (0, 0), each with minus by 0, each with plus by 200
        range("why(#, 0, 0) with its sign", 0, 47, -1, Run.of(),
                way -> plate -> way < 0 || way > 47 ? plate.why(way, 0, 0)
                        : plate.why(way, 0, 0) + plate.way(way, 2), way -> way == 0 ? 0 : 3);
        int[] due = {2, 0, 0, 2};
        range("why(0, #, 9)", 0, 3, -1, Run.of(), side -> plate -> plate.why(0, side, 9), side -> due[side]);
        range("why(0, 0, #)", 0, 11, -1, Run.of(), along -> plate -> plate.why(0, 0, along),
                along -> firstWay(0, along) == 0 ? 0 : 2);
    }

    private static void possible() {
        // without clamps the ways 0 and 1 take all bows
        range("possible(#)", 0, 1, -5, Run.of(), rank -> plate -> rank < 0 ? plate.possible(rank) - 3
                : plate.possible(rank), rank -> rank);
        checks.due("possible(-1)", -2, new BowedPlate().possible(-1));
        checks.due("possible(2)", -5, new BowedPlate().possible(2));
    }

    private static void waiting() {
        for (int number = 1; number <= 16; number++) {
            int wait = number;
            Run run = Run.of().times(wait, plate -> plate.bow(3, 2, 4));
            for (int place = 0; place < wait; place++) {
                answers(wait + " wait: waiting(#, 1)", place, 2, run, at -> plate -> plate.waiting(at, 1));
            }
            answers(wait + " wait: waiting(#, 1)", wait, -5, run, at -> plate -> plate.waiting(at, 1));
            answers(wait + " wait: waiting(#, 1)", Integer.MAX_VALUE, -5, run, at -> plate -> plate.waiting(at, 1));
            answers(wait + " wait: waiting(#, 1)", -1, -2, run, at -> plate -> plate.waiting(at, 1));
            answers(wait + " wait: waiting(#, 1)", Integer.MIN_VALUE, -2, run, at -> plate -> plate.waiting(at, 1));
        }
        int[] due = {3, 2, 4, 0};
        range("waiting(0, #)", 0, 3, -2, Run.of(plate -> plate.bow(3, 2, 4)),
                what -> plate -> plate.waiting(0, what), what -> due[what]);
    }

    private static void sand() {
        Run run = Run.of();
        for (int number = 0; number < 12; number++) {
            int line = number;
            run = run.then(plate -> plate.strew(line, 11 - line, 1 + line));
        }
        range("sand(true, #)", 0, 11, -1, run, line -> plate -> plate.sand(true, line), line -> 60 + 12 - line);
        range("sand(false, #)", 0, 11, -1, run, line -> plate -> plate.sand(false, line), line -> 60 + 1 + line);
    }

    private static void count() {
        int[] due = {720, 720, 0, 0, 0, 0, 0, 0, -5, 2, 5, 20, 60, 15, 150, 0, 0};
        range("new: count(#)", 0, 16, -2, Run.of(), what -> plate -> plate.count(what), what -> due[what]);
    }

    private static void clampAt() {
        for (int clamps = 0; clamps <= 4; clamps++) {
            range(clamps + " clamps: clampAt(#, false)", 0, clamps - 1, -1, clamps(clamps),
                    clamp -> plate -> plate.clampAt(clamp, false), clamp -> clamp);
            range(clamps + " clamps: clampAt(#, true)", 0, clamps - 1, -1, clamps(clamps),
                    clamp -> plate -> plate.clampAt(clamp, true), clamp -> 11 - clamp);
        }
    }
}
