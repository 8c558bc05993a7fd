/** Terms, TEXTS: each sentence that names an edge, by itself. */
public final class TextEdgesTest {
    private static final Checks checks = new Checks("TextEdgesTest");

    private TextEdgesTest() {
    }

    public static void main(String[] arguments) {
        atMostSixtyCharacters();
        roomAgainInAFullText();
        anyCharacter();
        emptyAtFirst();
        clearTextAnswersTheLength();
        oneOrMoreBowings();
        commaBetweenTwo();
        sides();
        placesFromZeroToEleven();
        strokesFromOneToTwenty();
        withoutStrokesItIsOne();
        noZeroInFront();
        digitsThatMakeANumberTooGreat();
        textsThatEndTooEarly();
        theFirstFaultIsTold();
        faultsFromTheFirstToTheLastIndex();
        everyCharacterAtItsPlace();
        theTextStays();
        checks.end();
    }

    private static int bowAllOf(String text) {
        return Run.of().typed(text).answer(BowedPlate::bowAll);
    }

    private static void fault(String text, int index) {
        checks.due("bowAll() of \"" + text + "\"", -100 - index, bowAllOf(text));
    }

    private static void reads(String text, int side, int along, int strokes) {
        BowedPlate plate = Run.of().typed(text).plate();
        checks.due("bowAll() of \"" + text + "\"", 1, plate.bowAll());
        checks.due("\"" + text + "\": side", side, plate.waiting(0, 0));
        checks.due("\"" + text + "\": place", along, plate.waiting(0, 1));
        checks.due("\"" + text + "\": strokes", strokes, plate.waiting(0, 2));
        checks.due("\"" + text + "\": one waits", -5, plate.waiting(1, 0));
    }

    /** "at most 60 characters", "FULL if it has 60 characters". */
    private static void atMostSixtyCharacters() {
        BowedPlate plate = new BowedPlate();
        for (int length = 1; length <= 60; length++) {
            checks.due("type", length, plate.type('t'));
            checks.due("count(16)", length, plate.count(16));
        }
        checks.due("a sixty-first", -3, plate.type('t'));
        checks.due("count(16)", 60, plate.count(16));
        checks.due("a sixty-first again", -3, plate.type(','));
        checks.due("the fault is the second one's", -101, plate.bowAll());
    }

    private static void roomAgainInAFullText() {
        BowedPlate plate = Run.of().typed("x".repeat(60)).plate();
        checks.due("full", -3, plate.type('r'));
        checks.due("undo() leaves it full", -5, plate.undo());
        checks.due("full", -3, plate.type('r'));
        checks.due("clearText()", 60, plate.clearText());
        checks.due("room again", 1, plate.type('r'));
        checks.due("room again", 2, plate.type('7'));
        checks.due("bowAll()", 1, plate.bowAll());
        checks.due("waiting(0, 1)", 7, plate.waiting(0, 1));
    }

    /** "any character". */
    private static void anyCharacter() {
        for (int start = 0; start < 65536; start += 60) {
            BowedPlate plate = new BowedPlate();
            for (int character = start; character < Math.min(start + 60, 65536); character++) {
                checks.due("type((char) " + character + ")", character - start + 1, plate.type((char) character));
            }
        }
    }

    /** "empty at first", "(the empty text does)". */
    private static void emptyAtFirst() {
        BowedPlate plate = new BowedPlate();
        checks.due("count(16)", 0, plate.count(16));
        checks.due("bowAll()", -100, plate.bowAll());
        checks.due("clearText()", 0, plate.clearText());
        checks.due("bowAll()", -100, plate.bowAll());
        checks.due("the first one", 1, plate.type('t'));
    }

    /** "Returns the length that it had": none, one, 60. */
    private static void clearTextAnswersTheLength() {
        for (int length = 0; length <= 60; length++) {
            BowedPlate plate = Run.of().typed("q".repeat(length)).plate();
            checks.due("clearText() of " + length, length, plate.clearText());
            checks.due("count(16)", 0, plate.count(16));
            checks.due("clearText() again", 0, plate.clearText());
            checks.due("bowAll() of the emptied text", -100, plate.bowAll());
        }
    }

    /** "one or more bowings": from 1 to 16, then more than can wait. */
    private static void oneOrMoreBowings() {
        for (int bowings = 1; bowings <= 20; bowings++) {
            String text = "l1" + ",l2".repeat(bowings - 1);
            checks.due("bowAll() of " + bowings, bowings <= 16 ? bowings : -3, bowAllOf(text));
        }
    }

    /** "with \",\" between two": none in front, none behind, not two of them. */
    private static void commaBetweenTwo() {
        checks.due("t0,r1", 2, bowAllOf("t0,r1"));
        fault(",", 0);
        fault(",t0", 0);
        fault("t0,", 3);
        fault("t0,,", 3);
        fault("t0,,r1", 3);
        fault("t0r1", 2);
        fault("t0 r1", 2);
        fault("t0, r1", 3);
        fault("t0;r1", 2);
        fault("t0,r1,", 6);
    }

    /** "a side ("t", "r", "b", "l" for 0 to 3)". */
    private static void sides() {
        reads("t5", 0, 5, 1);
        reads("r5", 1, 5, 1);
        reads("b5", 2, 5, 1);
        reads("l5", 3, 5, 1);
        for (String other : new String[] {"T5", "R5", "B5", "L5", "s5", "u5", "a5", "c5", "05", "x5", "k5", "m5", "q5"}) {
            fault(other, 0);
            fault("t0," + other, 3);
        }
        fault("tt5", 1);
        fault("5", 0);
    }

    /** "a place (0 to 11)". */
    private static void placesFromZeroToEleven() {
        String[] letters = {"t", "r", "b", "l"};
        for (int side = 0; side < 4; side++) {
            for (int along = 0; along <= 11; along++) {
                reads(letters[side] + along, side, along, 1);
                reads(letters[side] + along + "x13", side, along, 13);
            }
            for (int along = 12; along <= 99; along++) {
                fault(letters[side] + along, 2);
            }
        }
        fault("t-1", 1);
        fault("t+1", 1);
        fault("t", 1);
        fault("tx3", 1);
        fault("t,", 1);
    }

    /** "perhaps "x" and strokes (1 to 20 ...)". */
    private static void strokesFromOneToTwenty() {
        for (int strokes = 1; strokes <= 20; strokes++) {
            reads("t4x" + strokes, 0, 4, strokes);
            reads("l11x" + strokes, 3, 11, strokes);
        }
        fault("t4x0", 3);
        fault("l11x0", 4);
        for (int strokes = 21; strokes <= 99; strokes++) {
            fault("t4x" + strokes, 4);
            fault("l11x" + strokes, 5);
        }
        fault("t4x", 3);
        fault("t4x,", 3);
        fault("t4xx", 3);
        fault("t4X5", 2);
        fault("t4x-5", 3);
        fault("t4x5x6", 4);
    }

    /** "without it 1". */
    private static void withoutStrokesItIsOne() {
        BowedPlate plate = Run.of().typed("r3x20,r3,r3x2,r3").plate();
        checks.due("bowAll()", 4, plate.bowAll());
        int[] due = {20, 1, 2, 1};
        for (int place = 0; place < due.length; place++) {
            checks.due("strokes of " + place, due[place], plate.waiting(place, 2));
        }
    }

    /** "Numbers have no zero in front, unless it is the single digit 0". */
    private static void noZeroInFront() {
        reads("b0", 2, 0, 1);
        reads("b0x7", 2, 0, 7);
        for (int digit = 0; digit <= 9; digit++) {
            fault("b0" + digit, 2);
            fault("t1,b0" + digit, 5);
            fault("b3x0" + digit, 3);
        }
        fault("b00", 2);
        fault("b011", 2);
        fault("b3x01", 3);
        fault("b3x020", 3);
        fault("b3x00", 3);
    }

    /** "a digit by which a number would be greater than told is not allowed". */
    private static void digitsThatMakeANumberTooGreat() {
        reads("r1", 1, 1, 1);
        reads("r10", 1, 10, 1);
        reads("r11", 1, 11, 1);
        fault("r12", 2);
        fault("r20", 2);
        fault("r90", 2);
        fault("r100", 3);
        fault("r110", 3);
        fault("r111", 3);
        reads("r1x1", 1, 1, 1);
        reads("r1x2", 1, 1, 2);
        reads("r1x19", 1, 1, 19);
        reads("r1x20", 1, 1, 20);
        fault("r1x21", 4);
        fault("r1x30", 4);
        fault("r1x90", 4);
        fault("r1x100", 5);
        fault("r1x190", 5);
        fault("r1x200", 5);
        fault("r1x2000000000000", 5);
        fault("r4294967296", 2);
    }

    /** "or the length of the text if it ends too early": each start of a long text. */
    private static void textsThatEndTooEarly() {
        String text = "t10x20,r0x1,b1,l11x3";
        String complete = "t1 t10 t10x2 t10x20 t10x20,r0 t10x20,r0x1 t10x20,r0x1,b1 "
                + "t10x20,r0x1,b1,l1 t10x20,r0x1,b1,l11 t10x20,r0x1,b1,l11x3";
        for (int length = 0; length <= text.length(); length++) {
            String start = text.substring(0, length);
            boolean isComplete = !start.isEmpty() && (" " + complete + " ").contains(" " + start + " ");
            if (isComplete) {
                checks.due("bowAll() of \"" + start + "\"", start.split(",").length, bowAllOf(start));
            } else {
                fault(start, length);
            }
        }
        fault("t10x20,".repeat(8) + "t1,t", 60);
        fault("t10x20,".repeat(8) + "t11x", 60);
        fault("t10x20,".repeat(8) + "t11,", 60);
    }

    /** "the index, from 0, of the first character that is not allowed at its place". */
    private static void theFirstFaultIsTold() {
        fault("q", 0);
        fault("qq", 0);
        fault("tq,rq", 1);
        fault("t1,rq,bq", 4);
        fault("t1x21,q", 4);
        fault("t1,r12,b3x0", 5);
        fault("t1,r2,b3x0", 9);
    }

    /** Faults at each index from 0 to 59. */
    private static void faultsFromTheFirstToTheLastIndex() {
        String text = "t1,r2x3,b4,l11x20,t10,r0x1,b9x19,l5,t6,r7,b8x2,l2x4,t3,r5x12";
        for (int index = 0; index < 60; index++) {
            String faulty = (text.substring(0, index) + "?" + "?".repeat(60)).substring(0, 60);
            fault(faulty, index);
            fault(text.substring(0, index) + "?", index);
            fault(text.substring(0, index) + (char) 0, index);
        }
    }

    /** What is allowed behind each start, of all characters; all others are faults. */
    private static void everyCharacterAtItsPlace() {
        String[][] startsAndAllowed = {
            {"", "trbl"}, {"t", "0123456789"}, {"b0", "x,"}, {"l1", "01x,"}, {"r2", "x,"}, {"r9", "x,"},
            {"t10", "x,"}, {"t11", "x,"}, {"t0x", "123456789"}, {"t11x", "123456789"},
            {"t0x1", "0123456789,"}, {"t0x2", "0,"}, {"t0x3", ","}, {"t0x9", ","}, {"t0x10", ","},
            {"t0x19", ","}, {"t0x20", ","}, {"t0,", "trbl"}, {"t11x20,", "trbl"}, {"t0,r", "0123456789"},
            {"t0,r1", "01x,"}, {"t0,r0", "x,"}, {"t0,r1x", "123456789"}, {"t0,r1x2", "0,"},
        };
        for (String[] row : startsAndAllowed) {
            for (int character = 0; character < 300; character++) {
                everyCharacterBehind(row[0], row[1], (char) character);
            }
            for (int digit : new int[] {0x661, 0x966, 0xff10, 0x1d7, 65535}) {
                everyCharacterBehind(row[0], row[1], (char) digit);
            }
        }
    }

    private static void everyCharacterBehind(String start, String allowed, char character) {
        BowedPlate plate = Run.of().typed(start).plate();
        plate.type(character);
        boolean isAllowed = allowed.indexOf(character) >= 0;
        int last = character == ',' || character == 'x' || start.isEmpty() || start.endsWith(",") ? -1 : 1;
        String title = "\"" + start + "\" and (char) " + (int) character;
        int bowings = start.split(",").length + (start.endsWith(",") ? 1 : 0);
        int due = !isAllowed ? -100 - start.length() : last < 0 ? -100 - start.length() - 1 : bowings;
        checks.due(title, due, plate.bowAll());
    }

    /** "Puts the bowings of the text, which stays, behind the piece". */
    private static void theTextStays() {
        BowedPlate plate = Run.of().typed("t1,r2x3").plate();
        for (int time = 1; time <= 8; time++) {
            checks.due("bowAll()", 2, plate.bowAll());
            checks.due("count(5)", 2 * time, plate.count(5));
            checks.due("count(16)", 7, plate.count(16));
        }
        checks.due("bowAll() when full", -3, plate.bowAll());
        checks.due("count(16)", 7, plate.count(16));
        checks.due("typed behind it", 8, plate.type('0'));
        checks.due("the fault of the longer text", -107, plate.bowAll());
        checks.due("clearText()", 8, plate.clearText());
        checks.due("what waits is left", 16, plate.count(5));
        checks.due("the last one is as it was", 3, plate.waiting(15, 2));
    }
}
