import java.util.ArrayList;
import java.util.Comparator;
import java.util.List;
import java.util.regex.Matcher;
import java.util.regex.Pattern;

/**
 * The document once more, written another way (lists that are copied, a regular expression for
 * the texts), so that the class and its model are unlikely to share a fault.
 */
final class PlateModel {
    private record Way(int m, int n, int sign, int note) {
        int swing(int x, int y) {
            int one = height(m, x) * height(n, y);
            int other = height(n, x) * height(m, y);
            return Math.floorDiv(Math.abs(sign == 0 ? one + other : one - other), 100);
        }

        private static int height(int wave, int line) {
            return Math.abs(200 - 200 * wave * line / 11 % 400) - 100;
        }
    }

    private record Place(int x, int y) {
        boolean isEdge() {
            return x == 0 || x == 11 || y == 0 || y == 11;
        }
    }

    private record Bow(int side, int along, int strokes) {
        Place place() {
            return List.of(new Place(along, 0), new Place(11, along), new Place(along, 11), new Place(0, along))
                    .get(side);
        }
    }

    private record Numbers(int strewn, int swept, int fallen, int strokes, int mutes, int last) {
    }

    private record State(List<Integer> grains, List<Place> clamps, List<Integer> settings, List<Bow> piece,
            Numbers numbers) {
    }

    private static final int[][] RANGES = {{0, 60}, {1, 150}, {0, 60}, {50, 201}};
    private static final String BOWING = "[trbl](0|[1-9]|10|11)(x([1-9]|1[0-9]|20))?";
    private static final Pattern TEXT = Pattern.compile(BOWING + "(," + BOWING + ")*");
    private static final List<Way> WAYS = allWays();

    private State state = new State(allPlaces(5), List.of(), List.of(20, 60, 15, 150), List.of(),
            new Numbers(720, 0, 0, 0, 0, -5));
    private State snapshot = null;
    private List<State> history = new ArrayList<>();
    private String text = "";

    private static List<Way> allWays() {
        List<Way> ways = new ArrayList<>();
        for (int n = 6; n >= 1; n--) {
            for (int m = n; m >= 0; m--) {
                int note = 10 * (m * m + n * n);
                ways.add(new Way(m, n, 0, note));
                if (m != n) {
                    ways.add(new Way(m, n, 1, note + 1));
                }
            }
        }
        ways.sort(Comparator.comparingInt(Way::note).thenComparingInt(Way::m));
        return ways;
    }

    private static List<Integer> allPlaces(int grains) {
        List<Integer> all = new ArrayList<>();
        for (int place = 0; place < 144; place++) {
            all.add(grains);
        }
        return all;
    }

    private static int sum(List<Integer> numbers) {
        return numbers.stream().mapToInt(Integer::intValue).sum();
    }

    private static boolean isIn(int number, int least, int most) {
        return number >= least && number <= most;
    }

    private static boolean isPlace(int x, int y) {
        return isIn(x, 0, 11) && isIn(y, 0, 11);
    }

    private int act(State next, int answer) {
        history.add(state);
        if (history.size() > 4) {
            history.remove(0);
        }
        state = next;
        return answer;
    }

    private State withGrains(List<Integer> grains, int strewn, int swept) {
        Numbers old = state.numbers;
        return new State(grains, state.clamps, state.settings, state.piece, new Numbers(old.strewn + strewn,
                old.swept + swept, old.fallen, old.strokes, old.mutes, old.last));
    }

    private State withClamps(List<Place> clamps) {
        return new State(state.grains, clamps, state.settings, state.piece, state.numbers);
    }

    private State withPiece(List<Bow> piece) {
        return new State(state.grains, state.clamps, state.settings, piece, state.numbers);
    }

    int strew(int x, int y, int grains) {
        if (!isPlace(x, y)) {
            return -1;
        }
        if (!isIn(grains, 1, 99)) {
            return -2;
        }
        List<Integer> next = new ArrayList<>(state.grains);
        int sum = next.get(12 * y + x) + grains;
        next.set(12 * y + x, sum);
        return act(withGrains(next, grains, 0), sum);
    }

    int sweep(int grains) {
        if (!isIn(grains, 0, 99)) {
            return -2;
        }
        int swept = sum(state.grains);
        return act(withGrains(allPlaces(grains), 144 * grains, swept), swept);
    }

    int clamp(int x, int y) {
        if (!isPlace(x, y)) {
            return -1;
        }
        if (state.clamps.size() == 4) {
            return -3;
        }
        if (state.clamps.contains(new Place(x, y))) {
            return -5;
        }
        List<Place> next = new ArrayList<>(state.clamps);
        next.add(new Place(x, y));
        return act(withClamps(next), next.size());
    }

    int unclamp(int clamp) {
        if (!isIn(clamp, 0, state.clamps.size() - 1)) {
            return -1;
        }
        List<Place> next = new ArrayList<>(state.clamps);
        next.remove(clamp);
        return act(withClamps(next), next.size());
    }

    int set(int which, int value) {
        if (!isIn(which, 0, 3) || !isIn(value, RANGES[which][0], RANGES[which][1])) {
            return -2;
        }
        int before = state.settings.get(which);
        if (before == value) {
            return -5;
        }
        List<Integer> next = new ArrayList<>(state.settings);
        next.set(which, value);
        return act(new State(state.grains, state.clamps, next, state.piece, state.numbers), before);
    }

    int bow(int side, int along, int strokes) {
        if (!isIn(side, 0, 3) || !isIn(along, 0, 11)) {
            return -1;
        }
        if (!isIn(strokes, 1, 20)) {
            return -2;
        }
        if (state.piece.size() == 16) {
            return -3;
        }
        List<Bow> next = new ArrayList<>(state.piece);
        next.add(new Bow(side, along, strokes));
        return act(withPiece(next), next.size());
    }

    int bowAll() {
        if (!TEXT.matcher(text).matches()) {
            return -100 - fault();
        }
        String[] bowings = text.split(",");
        if (state.piece.size() + bowings.length > 16) {
            return -3;
        }
        List<Bow> next = new ArrayList<>(state.piece);
        for (String bowing : bowings) {
            String[] numbers = bowing.substring(1).split("x");
            next.add(new Bow("trbl".indexOf(bowing.charAt(0)), Integer.parseInt(numbers[0]),
                    numbers.length > 1 ? Integer.parseInt(numbers[1]) : 1));
        }
        return act(withPiece(next), bowings.length);
    }

    /** The length of the longest start of the text with which a text without fault can start. */
    private int fault() {
        int fault = 0;
        while (fault < text.length()) {
            Matcher matcher = TEXT.matcher(text.substring(0, fault + 1));
            if (!matcher.matches() && !matcher.hitEnd()) {
                break;
            }
            fault++;
        }
        return fault;
    }

    int strike(int side) {
        if (!isIn(side, 0, 3)) {
            return -1;
        }
        List<Bow> next = new ArrayList<>(state.piece);
        next.removeIf(bow -> bow.side == side);
        int struck = state.piece.size() - next.size();
        return struck == 0 ? -5 : act(withPiece(next), struck);
    }

    int play(int bowings) {
        if (!isIn(bowings, 1, 16)) {
            return -2;
        }
        if (state.piece.isEmpty()) {
            return -5;
        }
        State before = state;
        int loud = 0;
        for (int played = 0; played < bowings && !state.piece.isEmpty(); played++) {
            Bow bow = state.piece.get(0);
            int way = wayFor(bow.place());
            Numbers old = state.numbers;
            List<Bow> rest = state.piece.subList(1, state.piece.size());
            Numbers next = way < 0
                    ? new Numbers(old.strewn, old.swept, old.fallen, old.strokes, old.mutes + 1, old.last)
                    : new Numbers(old.strewn, old.swept, old.fallen, old.strokes + bow.strokes, old.mutes, way);
            state = new State(state.grains, state.clamps, state.settings, List.copyOf(rest), next);
            for (int stroke = 0; way >= 0 && stroke < bow.strokes; stroke++) {
                stroke(WAYS.get(way));
            }
            loud += way < 0 ? 0 : 1;
        }
        State after = state;
        state = before;
        return act(after, loud);
    }

    private void stroke(Way way) {
        List<Integer> next = new ArrayList<>(state.grains);
        int fallen = 0;
        for (int place = 0; place < 144; place++) {
            Place from = new Place(place % 12, place / 12);
            int swing = way.swing(from.x, from.y);
            int go = swing > state.settings.get(2) ? state.grains.get(place) - state.grains.get(place) / 2 : 0;
            if (go == 0) {
                continue;
            }
            int falls = from.isEdge() && swing >= state.settings.get(3) ? 1 : 0;
            fallen += falls;
            Place to = from;
            int least = swing;
            for (Place beside : beside(from)) {
                if (way.swing(beside.x, beside.y) < least) {
                    least = way.swing(beside.x, beside.y);
                    to = beside;
                }
            }
            next.set(place, next.get(place) - go);
            next.set(12 * to.y + to.x, next.get(12 * to.y + to.x) + go - falls);
        }
        Numbers old = state.numbers;
        state = new State(next, state.clamps, state.settings, state.piece, new Numbers(old.strewn, old.swept,
                old.fallen + fallen, old.strokes, old.mutes, old.last));
    }

    /** Above, to the left, to the right and below. */
    private static List<Place> beside(Place place) {
        List<Place> all = new ArrayList<>(List.of(new Place(place.x, place.y - 1), new Place(place.x - 1, place.y),
                new Place(place.x + 1, place.y), new Place(place.x, place.y + 1)));
        all.removeIf(one -> !isPlace(one.x, one.y));
        return all;
    }

    int type(char character) {
        if (text.length() == 60) {
            return -3;
        }
        text += character;
        return text.length();
    }

    int clearText() {
        int before = text.length();
        text = "";
        return before;
    }

    int undo() {
        if (history.isEmpty()) {
            return -5;
        }
        state = history.remove(history.size() - 1);
        return history.size();
    }

    int keep() {
        snapshot = state;
        return sum(state.grains);
    }

    int restore() {
        return snapshot == null ? -5 : act(snapshot, sum(snapshot.grains));
    }

    int place(int x, int y, int what) {
        if (!isPlace(x, y)) {
            return -1;
        }
        if (!isIn(what, 0, 3)) {
            return -2;
        }
        int last = state.numbers.last;
        if (what == 0) {
            return state.grains.get(12 * y + x);
        }
        if (what == 3) {
            int clamp = state.clamps.indexOf(new Place(x, y));
            return clamp < 0 ? -5 : clamp;
        }
        if (last < 0) {
            return -5;
        }
        int swing = WAYS.get(last).swing(x, y);
        return what == 1 ? swing : swing <= state.settings.get(2) ? 1 : 0;
    }

    int way(int number, int what) {
        if (!isIn(number, 0, 47)) {
            return -1;
        }
        if (!isIn(what, 0, 7)) {
            return -2;
        }
        Way way = WAYS.get(number);
        List<Place> still = still(way);
        switch (what) {
            case 0:
                return way.m;
            case 1:
                return way.n;
            case 2:
                return way.sign;
            case 3:
                return way.note;
            case 4:
                return still.size();
            case 5:
                return lines(still);
            case 6:
                return still.stream().mapToInt(place -> state.grains.get(12 * place.y + place.x)).sum();
            default:
                return isLetBe(way) ? 1 : 0;
        }
    }

    private List<Place> still(Way way) {
        List<Place> still = new ArrayList<>();
        for (int place = 0; place < 144; place++) {
            if (way.swing(place % 12, place / 12) <= state.settings.get(2)) {
                still.add(new Place(place % 12, place / 12));
            }
        }
        return still;
    }

    /** Each place starts as a line of its own; two lines that touch become one. */
    private static int lines(List<Place> still) {
        int[] lineOf = new int[still.size()];
        for (int place = 0; place < lineOf.length; place++) {
            lineOf[place] = place;
        }
        int lines = lineOf.length;
        for (int place = 0; place < lineOf.length; place++) {
            for (Place beside : beside(still.get(place))) {
                int other = still.indexOf(beside);
                if (other < 0 || lineOf[other] == lineOf[place]) {
                    continue;
                }
                lines--;
                int gone = lineOf[other];
                for (int each = 0; each < lineOf.length; each++) {
                    lineOf[each] = lineOf[each] == gone ? lineOf[place] : lineOf[each];
                }
            }
        }
        return lines;
    }

    int swing(int way, int x, int y) {
        return isIn(way, 0, 47) && isPlace(x, y) ? WAYS.get(way).swing(x, y) : -1;
    }

    private boolean isLetBe(Way way) {
        return state.clamps.stream().allMatch(clamp -> way.swing(clamp.x, clamp.y) <= state.settings.get(0));
    }

    private boolean isLoudAt(Way way, Place bow) {
        return way.swing(bow.x, bow.y) >= state.settings.get(1);
    }

    private int wayFor(Place bow) {
        for (int way = 0; way < 48; way++) {
            if (isLetBe(WAYS.get(way)) && isLoudAt(WAYS.get(way), bow)) {
                return way;
            }
        }
        return -5;
    }

    int sounds(int side, int along) {
        return isIn(side, 0, 3) && isIn(along, 0, 11) ? wayFor(new Bow(side, along, 1).place()) : -1;
    }

    int why(int way, int side, int along) {
        if (!isIn(way, 0, 47) || !isIn(side, 0, 3) || !isIn(along, 0, 11)) {
            return -1;
        }
        Place bow = new Bow(side, along, 1).place();
        if (!isLetBe(WAYS.get(way))) {
            return 1;
        }
        if (!isLoudAt(WAYS.get(way), bow)) {
            return 2;
        }
        return wayFor(bow) == way ? 0 : 3;
    }

    private List<Integer> allPossible() {
        boolean[] found = new boolean[48];
        for (int bow = 0; bow < 48; bow++) {
            int way = sounds(bow / 12, bow % 12);
            if (way >= 0) {
                found[way] = true;
            }
        }
        List<Integer> all = new ArrayList<>();
        for (int way = 0; way < 48; way++) {
            if (found[way]) {
                all.add(way);
            }
        }
        return all;
    }

    int possible(int rank) {
        if (rank < 0) {
            return -2;
        }
        List<Integer> all = allPossible();
        return rank < all.size() ? all.get(rank) : -5;
    }

    int waiting(int place, int what) {
        if (place < 0 || !isIn(what, 0, 3)) {
            return -2;
        }
        if (place >= state.piece.size()) {
            return -5;
        }
        Bow bow = state.piece.get(place);
        return List.of(bow.side, bow.along, bow.strokes, wayFor(bow.place())).get(what);
    }

    int sand(boolean isRow, int line) {
        if (!isIn(line, 0, 11)) {
            return -1;
        }
        int sum = 0;
        for (int place = 0; place < 144; place++) {
            sum += (isRow ? place / 12 : place % 12) == line ? state.grains.get(place) : 0;
        }
        return sum;
    }

    int count(int what) {
        if (!isIn(what, 0, 16)) {
            return -2;
        }
        Numbers numbers = state.numbers;
        List<Integer> all = new ArrayList<>(List.of(sum(state.grains), numbers.strewn, numbers.swept, numbers.fallen,
                state.clamps.size(), state.piece.size(), numbers.strokes, numbers.mutes, numbers.last));
        all.add(what == 9 ? allPossible().size() : 0);
        all.add(state.grains.stream().mapToInt(Integer::intValue).max().getAsInt());
        all.addAll(state.settings);
        all.add(history.size());
        all.add(text.length());
        return all.get(what);
    }

    int clampAt(int clamp, boolean isRow) {
        if (!isIn(clamp, 0, state.clamps.size() - 1)) {
            return -1;
        }
        return isRow ? state.clamps.get(clamp).y : state.clamps.get(clamp).x;
    }
}
