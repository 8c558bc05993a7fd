/**
 * Figures of sand on a plate that is bowed at its edge. The document DOC.md says what each call
 * answers. All rows are made with the object, so that no call makes anything new.
 */
public final class BowedPlate {
    public static final int UNKNOWN = -1;
    public static final int BAD_VALUE = -2;
    public static final int FULL = -3;
    public static final int NOT_POSSIBLE = -4;
    public static final int NONE = -5;

    private static final int LINES = 12;
    private static final int LAST_LINE = LINES - 1;
    private static final int PLACES = LINES * LINES;
    private static final int SIDES = 4;

    private static final int WAVES = 7;
    private static final int WAYS = 48;
    private static final int NO_WAY = -1;

    private static final int SETTINGS = 4;
    private static final int CLAMP_SWING = 0;
    private static final int BOW_SWING = 1;
    private static final int STILL_SWING = 2;
    private static final int FALL_SWING = 3;
    private static final int[] LEAST_SETTING = {0, 1, 0, 50};
    private static final int[] MOST_SETTING = {60, 150, 60, 201};
    private static final int[] FIRST_SETTING = {20, 60, 15, 150};

    private static final int FIRST_GRAINS = 5;
    private static final int MOST_GRAINS = 99;
    private static final int CLAMP_LIMIT = 4;
    private static final int PIECE_LIMIT = 16;
    private static final int MOST_STROKES = 20;
    private static final int TEXT_LIMIT = 60;
    private static final int FAULT_BASE = -100;
    private static final int HISTORY_LIMIT = 4;

    private static final int CLAMPED = 1;
    private static final int TOO_STILL = 2;
    private static final int BEHIND = 3;
    private static final int LOUD = 0;

    private final Ways ways = new Ways();
    private final State now = new State();
    private final Choice choice = new Choice(ways, now);
    private final Figure figure = new Figure(ways, now);
    private final Mover mover = new Mover(ways, now);
    private final Text text = new Text();
    private final History history = new History();
    private final State snapshot = new State();
    private boolean hasSnapshot = false;

    public BowedPlate() {
    }

    // ---- sand, clamps, settings

    public int strew(int x, int y, int grains) {
        if (!isPlace(x, y)) {
            return UNKNOWN;
        }
        if (grains < 1 || grains > MOST_GRAINS) {
            return BAD_VALUE;
        }
        history.record(now);
        int place = placeOf(x, y);
        now.grains[place] += grains;
        now.strewn += grains;
        return now.grains[place];
    }

    public int sweep(int grains) {
        if (grains < 0 || grains > MOST_GRAINS) {
            return BAD_VALUE;
        }
        history.record(now);
        int before = now.allGrains();
        now.swept += before;
        now.strewn += PLACES * grains;
        now.coverWith(grains);
        return before;
    }

    public int clamp(int x, int y) {
        if (!isPlace(x, y)) {
            return UNKNOWN;
        }
        if (now.clamps >= CLAMP_LIMIT) {
            return FULL;
        }
        if (now.clampOn(x, y) >= 0) {
            return NONE;
        }
        history.record(now);
        now.clampColumns[now.clamps] = x;
        now.clampRows[now.clamps] = y;
        now.clamps++;
        return now.clamps;
    }

    public int unclamp(int clamp) {
        if (!isClamp(clamp)) {
            return UNKNOWN;
        }
        history.record(now);
        now.dropClamp(clamp);
        return now.clamps;
    }

    public int set(int which, int value) {
        if (which < 0 || which >= SETTINGS) {
            return BAD_VALUE;
        }
        if (value < LEAST_SETTING[which] || value > MOST_SETTING[which]) {
            return BAD_VALUE;
        }
        int before = now.settings[which];
        if (value == before) {
            return NONE;
        }
        history.record(now);
        now.settings[which] = value;
        return before;
    }

    // ---- pieces

    public int bow(int side, int along, int strokes) {
        if (!isBow(side, along)) {
            return UNKNOWN;
        }
        if (strokes < 1 || strokes > MOST_STROKES) {
            return BAD_VALUE;
        }
        if (now.piece.size >= PIECE_LIMIT) {
            return FULL;
        }
        history.record(now);
        now.piece.append(side, along, strokes);
        return now.piece.size;
    }

    public int bowAll() {
        if (!text.read()) {
            return FAULT_BASE - text.fault();
        }
        if (now.piece.size + text.piece.size > PIECE_LIMIT) {
            return FULL;
        }
        history.record(now);
        now.piece.appendAll(text.piece);
        return text.piece.size;
    }

    public int strike(int side) {
        if (side < 0 || side >= SIDES) {
            return UNKNOWN;
        }
        if (now.piece.sizeAt(side) == 0) {
            return NONE;
        }
        history.record(now);
        return now.piece.dropSide(side);
    }

    public int play(int bowings) {
        if (bowings < 1 || bowings > PIECE_LIMIT) {
            return BAD_VALUE;
        }
        int played = Math.min(bowings, now.piece.size);
        if (played == 0) {
            return NONE;
        }
        history.record(now);
        int loud = 0;
        for (int bowing = 0; bowing < played; bowing++) {
            if (playBowing(bowing)) {
                loud++;
            }
        }
        now.piece.dropFirst(played);
        return loud;
    }

    // ---- texts

    public int type(char character) {
        if (text.length >= TEXT_LIMIT) {
            return FULL;
        }
        text.append(character);
        return text.length;
    }

    public int clearText() {
        int before = text.length;
        text.length = 0;
        return before;
    }

    // ---- history

    public int undo() {
        if (history.held == 0) {
            return NONE;
        }
        history.takeLatest(now);
        return history.held;
    }

    public int keep() {
        snapshot.copyFrom(now);
        hasSnapshot = true;
        return now.allGrains();
    }

    public int restore() {
        if (!hasSnapshot) {
            return NONE;
        }
        history.record(now);
        now.copyFrom(snapshot);
        return now.allGrains();
    }

    // ---- what is told

    public int place(int x, int y, int what) {
        if (!isPlace(x, y)) {
            return UNKNOWN;
        }
        switch (what) {
            case 0:
                return now.grains[placeOf(x, y)];
            case 1:
                return isWay(now.lastWay) ? ways.swingAt(now.lastWay, x, y) : NONE;
            case 2:
                return isWay(now.lastWay) ? asNumber(figure.isStill(now.lastWay, x, y)) : NONE;
            case 3:
                return orNone(now.clampOn(x, y));
            default:
                return BAD_VALUE;
        }
    }

    public int way(int way, int what) {
        if (!isWay(way)) {
            return UNKNOWN;
        }
        switch (what) {
            case 0:
                return ways.lesser[way];
            case 1:
                return ways.greater[way];
            case 2:
                return ways.sign[way];
            case 3:
                return ways.noteOf(way);
            case 4:
                return figure.stillPlaces(way);
            case 5:
                return figure.lines(way);
            case 6:
                return figure.grainsOnLines(way);
            case 7:
                return asNumber(choice.clampsAllow(way));
            default:
                return BAD_VALUE;
        }
    }

    public int swing(int way, int x, int y) {
        if (!isWay(way) || !isPlace(x, y)) {
            return UNKNOWN;
        }
        return ways.swingAt(way, x, y);
    }

    public int sounds(int side, int along) {
        if (!isBow(side, along)) {
            return UNKNOWN;
        }
        return orNone(choice.wayFor(side, along));
    }

    public int why(int way, int side, int along) {
        if (!isWay(way) || !isBow(side, along)) {
            return UNKNOWN;
        }
        return choice.reasonOf(way, side, along);
    }

    public int possible(int rank) {
        if (rank < 0) {
            return BAD_VALUE;
        }
        choice.findPossible();
        return rank < choice.possibleWays ? choice.possibleWay[rank] : NONE;
    }

    public int waiting(int place, int what) {
        if (place < 0 || what < 0 || what > 3) {
            return BAD_VALUE;
        }
        if (place >= now.piece.size) {
            return NONE;
        }
        switch (what) {
            case 0:
                return now.piece.sides[place];
            case 1:
                return now.piece.alongs[place];
            case 2:
                return now.piece.strokes[place];
            default:
                return orNone(choice.wayFor(now.piece.sides[place], now.piece.alongs[place]));
        }
    }

    public int sand(boolean isRow, int line) {
        if (!isLine(line)) {
            return UNKNOWN;
        }
        int sum = 0;
        for (int along = 0; along < LINES; along++) {
            sum += now.grains[isRow ? placeOf(along, line) : placeOf(line, along)];
        }
        return sum;
    }

    public int count(int what) {
        switch (what) {
            case 0:
                return now.allGrains();
            case 1:
                return now.strewn;
            case 2:
                return now.swept;
            case 3:
                return now.fallen;
            case 4:
                return now.clamps;
            case 5:
                return now.piece.size;
            case 6:
                return now.strokes;
            case 7:
                return now.mutes;
            case 8:
                return orNone(now.lastWay);
            case 9:
                choice.findPossible();
                return choice.possibleWays;
            case 10:
                return now.mostGrains();
            case 11:
            case 12:
            case 13:
            case 14:
                return now.settings[what - 11];
            case 15:
                return history.held;
            case 16:
                return text.length;
            default:
                return BAD_VALUE;
        }
    }

    public int clampAt(int clamp, boolean isRow) {
        if (!isClamp(clamp)) {
            return UNKNOWN;
        }
        return isRow ? now.clampRows[clamp] : now.clampColumns[clamp];
    }

    /** Whether the bowing was not mute. */
    private boolean playBowing(int bowing) {
        int way = choice.wayFor(now.piece.sides[bowing], now.piece.alongs[bowing]);
        if (!isWay(way)) {
            now.mutes++;
            return false;
        }
        int strokes = now.piece.strokes[bowing];
        mover.stroke(way, strokes);
        now.strokes += strokes;
        now.lastWay = way;
        return true;
    }

    private boolean isClamp(int clamp) {
        return clamp >= 0 && clamp < now.clamps;
    }

    private static boolean isLine(int line) {
        return line >= 0 && line < LINES;
    }

    private static boolean isPlace(int x, int y) {
        return x >= 0 && x < LINES && y >= 0 && y < LINES;
    }

    private static boolean isWay(int way) {
        return way >= 0 && way < WAYS;
    }

    private static boolean isBow(int side, int along) {
        return side >= 0 && side < SIDES && isLine(along);
    }

    private static int placeOf(int x, int y) {
        return y * LINES + x;
    }

    private static int columnOf(int place) {
        return place % LINES;
    }

    private static int rowOf(int place) {
        return place / LINES;
    }

    private static int orNone(int number) {
        return number >= 0 ? number : NONE;
    }

    private static int asNumber(boolean yes) {
        return yes ? 1 : 0;
    }

    /** The 48 ways of swinging, in their order. */
    private static final class Ways {
        private final int[] lesser = new int[WAYS];
        private final int[] greater = new int[WAYS];
        private final int[] sign = new int[WAYS];
        private final int[] heights = new int[WAVES * LINES];
        private int listed = 0;

        Ways() {
            for (int wave = 0; wave < WAVES; wave++) {
                for (int line = 0; line < LINES; line++) {
                    heights[wave * LINES + line] = waveHeight(wave, line);
                }
            }
            int most = 2 * (WAVES - 1) * (WAVES - 1);
            for (int squares = 1; squares <= most; squares++) {
                listWaysOf(squares, 0);
                listWaysOf(squares, 1);
            }
        }

        private static int waveHeight(int wave, int line) {
            int turn = (200 * wave * line / 11) % 400;
            return turn <= 200 ? 100 - turn : turn - 300;
        }

        private void listWaysOf(int squares, int itsSign) {
            for (int m = 0; m < WAVES; m++) {
                // with like numbers there is plus alone
                for (int n = m + itsSign; n < WAVES; n++) {
                    if (m * m + n * n == squares && listed < WAYS) {
                        lesser[listed] = m;
                        greater[listed] = n;
                        sign[listed] = itsSign;
                        listed++;
                    }
                }
            }
        }

        int noteOf(int way) {
            if (!isWay(way)) {
                return 0;
            }
            return 10 * (lesser[way] * lesser[way] + greater[way] * greater[way]) + sign[way];
        }

        int swingAt(int way, int x, int y) {
            if (!isWay(way) || !isPlace(x, y)) {
                return 0;
            }
            int m = lesser[way] * LINES;
            int n = greater[way] * LINES;
            int one = heights[m + x] * heights[n + y];
            int other = heights[n + x] * heights[m + y];
            return Math.abs((sign[way] == 0 ? one + other : one - other) / 100);
        }
    }

    /** Bowings in a row. */
    private static final class Piece {
        private final int limit;
        private final int[] sides;
        private final int[] alongs;
        private final int[] strokes;
        private int size = 0;

        Piece(int limit) {
            this.limit = Math.max(limit, 0);
            sides = new int[this.limit];
            alongs = new int[this.limit];
            strokes = new int[this.limit];
        }

        void append(int side, int along, int itsStrokes) {
            if (size < limit) {
                sides[size] = side;
                alongs[size] = along;
                strokes[size] = itsStrokes;
                size++;
            }
        }

        void appendAll(Piece other) {
            for (int bowing = 0; bowing < other.size; bowing++) {
                append(other.sides[bowing], other.alongs[bowing], other.strokes[bowing]);
            }
        }

        void copyFrom(Piece other) {
            size = 0;
            appendAll(other);
        }

        void dropFirst(int dropped) {
            int before = size;
            size = 0;
            for (int bowing = Math.max(dropped, 0); bowing < before; bowing++) {
                append(sides[bowing], alongs[bowing], strokes[bowing]);
            }
        }

        int sizeAt(int side) {
            int found = 0;
            for (int bowing = 0; bowing < size; bowing++) {
                if (sides[bowing] == side) {
                    found++;
                }
            }
            return found;
        }

        /** How many are dropped. */
        int dropSide(int side) {
            int before = size;
            size = 0;
            for (int bowing = 0; bowing < before; bowing++) {
                if (sides[bowing] != side) {
                    append(sides[bowing], alongs[bowing], strokes[bowing]);
                }
            }
            return before - size;
        }
    }

    /** All that undo and the snapshot bring back. */
    private static final class State {
        private final int[] grains = new int[PLACES];
        private final int[] clampColumns = new int[CLAMP_LIMIT];
        private final int[] clampRows = new int[CLAMP_LIMIT];
        private int clamps = 0;
        private final int[] settings = new int[SETTINGS];
        private final Piece piece = new Piece(PIECE_LIMIT);
        private int lastWay = NO_WAY;
        private int strewn = PLACES * FIRST_GRAINS;
        private int swept = 0;
        private int fallen = 0;
        private int strokes = 0;
        private int mutes = 0;

        State() {
            coverWith(FIRST_GRAINS);
            System.arraycopy(FIRST_SETTING, 0, settings, 0, SETTINGS);
        }

        void copyFrom(State other) {
            System.arraycopy(other.grains, 0, grains, 0, PLACES);
            System.arraycopy(other.clampColumns, 0, clampColumns, 0, CLAMP_LIMIT);
            System.arraycopy(other.clampRows, 0, clampRows, 0, CLAMP_LIMIT);
            clamps = other.clamps;
            System.arraycopy(other.settings, 0, settings, 0, SETTINGS);
            piece.copyFrom(other.piece);
            lastWay = other.lastWay;
            strewn = other.strewn;
            swept = other.swept;
            fallen = other.fallen;
            strokes = other.strokes;
            mutes = other.mutes;
        }

        void coverWith(int each) {
            for (int place = 0; place < PLACES; place++) {
                grains[place] = each;
            }
        }

        int allGrains() {
            int sum = 0;
            for (int place = 0; place < PLACES; place++) {
                sum += grains[place];
            }
            return sum;
        }

        int mostGrains() {
            int most = 0;
            for (int place = 0; place < PLACES; place++) {
                most = Math.max(most, grains[place]);
            }
            return most;
        }

        /** The clamp at a place, or -1. */
        int clampOn(int x, int y) {
            for (int clamp = 0; clamp < clamps; clamp++) {
                if (clampColumns[clamp] == x && clampRows[clamp] == y) {
                    return clamp;
                }
            }
            return -1;
        }

        void dropClamp(int dropped) {
            if (dropped < 0 || dropped >= clamps) {
                return;
            }
            for (int clamp = dropped; clamp < clamps - 1; clamp++) {
                clampColumns[clamp] = clampColumns[clamp + 1];
                clampRows[clamp] = clampRows[clamp + 1];
            }
            clamps--;
        }
    }

    /** Which way sounds with the clamps of now and a bow. */
    private static final class Choice {
        private final Ways ways;
        private final State now;
        private final int[] possibleWay = new int[WAYS];
        private int possibleWays = 0;
        private final boolean[] isTaken = new boolean[SIDES * LINES];

        Choice(Ways ways, State now) {
            this.ways = ways;
            this.now = now;
        }

        boolean clampsAllow(int way) {
            for (int clamp = 0; clamp < now.clamps; clamp++) {
                int swing = ways.swingAt(way, now.clampColumns[clamp], now.clampRows[clamp]);
                if (swing > now.settings[CLAMP_SWING]) {
                    return false;
                }
            }
            return true;
        }

        boolean bowAllows(int way, int side, int along) {
            return swingAtBow(way, side, along) >= now.settings[BOW_SWING];
        }

        private int swingAtBow(int way, int side, int along) {
            switch (side) {
                case 0:
                    return ways.swingAt(way, along, 0);
                case 1:
                    return ways.swingAt(way, LAST_LINE, along);
                case 2:
                    return ways.swingAt(way, along, LAST_LINE);
                default:
                    return ways.swingAt(way, 0, along);
            }
        }

        /** The way that sounds with a bow, or NO_WAY. */
        int wayFor(int side, int along) {
            for (int way = 0; way < WAYS; way++) {
                if (bowAllows(way, side, along) && clampsAllow(way)) {
                    return way;
                }
            }
            return NO_WAY;
        }

        int reasonOf(int way, int side, int along) {
            if (!clampsAllow(way)) {
                return CLAMPED;
            }
            if (!bowAllows(way, side, along)) {
                return TOO_STILL;
            }
            return wayFor(side, along) == way ? LOUD : BEHIND;
        }

        /** Goes through the ways in their order: each takes the bows that no way ahead of it took. */
        void findPossible() {
            for (int bow = 0; bow < SIDES * LINES; bow++) {
                isTaken[bow] = false;
            }
            possibleWays = 0;
            for (int way = 0; way < WAYS; way++) {
                if (clampsAllow(way) && takesBow(way) && possibleWays < WAYS) {
                    possibleWay[possibleWays] = way;
                    possibleWays++;
                }
            }
        }

        private boolean takesBow(int way) {
            boolean takes = false;
            for (int bow = 0; bow < SIDES * LINES; bow++) {
                if (!isTaken[bow] && bowAllows(way, bow / LINES, bow % LINES)) {
                    isTaken[bow] = true;
                    takes = true;
                }
            }
            return takes;
        }
    }

    /** The still places of a way, and the lines that they make. */
    private static final class Figure {
        private final Ways ways;
        private final State now;
        private final boolean[] isOpen = new boolean[PLACES];
        private final int[] reached = new int[PLACES];
        private int reaches = 0;

        Figure(Ways ways, State now) {
            this.ways = ways;
            this.now = now;
        }

        boolean isStill(int way, int x, int y) {
            return ways.swingAt(way, x, y) <= now.settings[STILL_SWING];
        }

        int stillPlaces(int way) {
            int found = 0;
            for (int place = 0; place < PLACES; place++) {
                if (isStill(way, columnOf(place), rowOf(place))) {
                    found++;
                }
            }
            return found;
        }

        int grainsOnLines(int way) {
            int sum = 0;
            for (int place = 0; place < PLACES; place++) {
                if (isStill(way, columnOf(place), rowOf(place))) {
                    sum += now.grains[place];
                }
            }
            return sum;
        }

        int lines(int way) {
            for (int place = 0; place < PLACES; place++) {
                isOpen[place] = isStill(way, columnOf(place), rowOf(place));
            }
            int found = 0;
            for (int place = 0; place < PLACES; place++) {
                if (isOpen[place]) {
                    found++;
                    closeLine(place);
                }
            }
            return found;
        }

        /** Takes all that hangs together with a place out of the open places. */
        private void closeLine(int start) {
            reaches = 0;
            reach(columnOf(start), rowOf(start));
            for (int next = 0; next < reaches && next < PLACES; next++) {
                int x = columnOf(reached[next]);
                int y = rowOf(reached[next]);
                reach(x, y - 1);
                reach(x - 1, y);
                reach(x + 1, y);
                reach(x, y + 1);
            }
        }

        private void reach(int x, int y) {
            if (isPlace(x, y) && isOpen[placeOf(x, y)] && reaches < PLACES) {
                isOpen[placeOf(x, y)] = false;
                reached[reaches] = placeOf(x, y);
                reaches++;
            }
        }
    }

    /** Moves the grains by strokes. */
    private static final class Mover {
        private final Ways ways;
        private final State now;
        private final int[] swings = new int[PLACES];
        private final int[] targets = new int[PLACES];
        private final int[] arrivals = new int[PLACES];

        Mover(Ways ways, State now) {
            this.ways = ways;
            this.now = now;
        }

        void stroke(int way, int strokes) {
            for (int place = 0; place < PLACES; place++) {
                swings[place] = ways.swingAt(way, columnOf(place), rowOf(place));
            }
            for (int place = 0; place < PLACES; place++) {
                targets[place] = targetOf(columnOf(place), rowOf(place));
            }
            for (int stroke = 0; stroke < strokes && stroke < MOST_STROKES; stroke++) {
                strokeOnce();
            }
        }

        /** Where the grains of a place go; the place itself where they stay. */
        private int targetOf(int x, int y) {
            int target = placeOf(x, y);
            target = calmerOf(target, x, y - 1);
            target = calmerOf(target, x - 1, y);
            target = calmerOf(target, x + 1, y);
            return calmerOf(target, x, y + 1);
        }

        private int calmerOf(int target, int x, int y) {
            if (isPlace(x, y) && swings[placeOf(x, y)] < swings[target]) {
                return placeOf(x, y);
            }
            return target;
        }

        private void strokeOnce() {
            for (int place = 0; place < PLACES; place++) {
                arrivals[place] = 0;
            }
            for (int place = 0; place < PLACES; place++) {
                if (swings[place] > now.settings[STILL_SWING] && now.grains[place] > 0) {
                    shake(place);
                }
            }
            for (int place = 0; place < PLACES; place++) {
                now.grains[place] += arrivals[place];
            }
        }

        private void shake(int place) {
            int target = targets[place];
            if (target < 0 || target >= PLACES) {
                return;
            }
            int going = (now.grains[place] + 1) / 2;
            now.grains[place] -= going;
            if (isAtEdge(place) && swings[place] >= now.settings[FALL_SWING]) {
                going--;
                now.fallen++;
            }
            // going into the arrivals keeps them from going on by the same stroke
            arrivals[target] += going;
        }

        private static boolean isAtEdge(int place) {
            int x = columnOf(place);
            int y = rowOf(place);
            return x == 0 || y == 0 || x == LAST_LINE || y == LAST_LINE;
        }
    }

    /** The text, and the piece that is read from it. */
    private static final class Text {
        private static final int NO_NUMBER = -1;
        private static final int TEXT_END = -1;

        private final char[] characters = new char[TEXT_LIMIT];
        private int length = 0;
        private final Piece piece = new Piece(TEXT_LIMIT);
        private int cursor = 0;

        void append(char character) {
            if (length < TEXT_LIMIT) {
                characters[length] = character;
                length++;
            }
        }

        /** Whether the text has no fault; its bowings are in the piece then. */
        boolean read() {
            cursor = 0;
            piece.size = 0;
            for (int bowing = 0; bowing < TEXT_LIMIT; bowing++) {
                if (!readBowing()) {
                    return false;
                }
                if (next() == TEXT_END) {
                    return true;
                }
                if (next() != ',') {
                    return false;
                }
                cursor++;
            }
            return false;
        }

        /** Where reading stopped: the cursor never passes a character that is not allowed. */
        int fault() {
            return cursor;
        }

        private int next() {
            boolean isInside = cursor >= 0 && cursor < length && cursor < TEXT_LIMIT;
            return isInside ? characters[cursor] : TEXT_END;
        }

        private boolean readBowing() {
            int side = sideOf(next());
            if (side < 0) {
                return false;
            }
            cursor++;
            int along = readNumber(0, LAST_LINE);
            if (along == NO_NUMBER) {
                return false;
            }
            int strokes = 1;
            if (next() == 'x') {
                cursor++;
                strokes = readNumber(1, MOST_STROKES);
            }
            if (strokes == NO_NUMBER) {
                return false;
            }
            piece.append(side, along, strokes);
            return true;
        }

        private static int sideOf(int character) {
            switch (character) {
                case 't':
                    return 0;
                case 'r':
                    return 1;
                case 'b':
                    return 2;
                case 'l':
                    return 3;
                default:
                    return -1;
            }
        }

        private static int digitOf(int character) {
            return character >= '0' && character <= '9' ? character - '0' : NO_NUMBER;
        }

        /** Stops ahead of the digit that would make the number too great, or follow a zero. */
        private int readNumber(int least, int most) {
            int number = digitOf(next());
            if (number == NO_NUMBER || number < least) {
                return NO_NUMBER;
            }
            cursor++;
            for (int digits = 1; digits < TEXT_LIMIT && number > 0; digits++) {
                int digit = digitOf(next());
                if (digit == NO_NUMBER || number * 10 + digit > most) {
                    return number;
                }
                number = number * 10 + digit;
                cursor++;
            }
            return number;
        }
    }

    /** The latest states, in a ring. */
    private static final class History {
        private final State[] states = new State[HISTORY_LIMIT];
        private int oldest = 0;
        private int held = 0;

        History() {
            for (int slot = 0; slot < HISTORY_LIMIT; slot++) {
                states[slot] = new State();
            }
        }

        void record(State state) {
            if (held == HISTORY_LIMIT) {
                oldest = (oldest + 1) % HISTORY_LIMIT;
                held--;
            }
            State slot = states[(oldest + held) % HISTORY_LIMIT];
            if (slot != null) {
                slot.copyFrom(state);
                held++;
            }
        }

        void takeLatest(State into) {
            if (held == 0) {
                return;
            }
            held--;
            State slot = states[(oldest + held) % HISTORY_LIMIT];
            if (slot != null) {
                into.copyFrom(slot);
            }
        }
    }
}
