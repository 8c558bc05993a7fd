/** Promises 8, 11 and 12: texts, their faults and their bowings. */
public final class TextTest {
    private static final Checks checks = new Checks("TextTest");

    private TextTest() {
    }

    public static void main(String[] arguments) {
        type();
        clearText();
        textsWithoutFault();
        textsWithFault();
        charactersThatAreNotLetters();
        bowAllPutsThemBehind();
        bowAllAllOrNone();
        fullTexts();
        checks.end();
    }

    private static void typeAll(BowedPlate plate, String text) {
        for (int index = 0; index < text.length(); index++) {
            plate.type(text.charAt(index));
        }
    }

    private static BowedPlate withText(String text) {
        BowedPlate plate = new BowedPlate();
        typeAll(plate, text);
        return plate;
    }

    private static void type() {
        BowedPlate plate = new BowedPlate();
        char[] characters = {'t', '?', (char) 0, (char) 255, (char) 65535, ' '};
        for (int index = 0; index < characters.length; index++) {
            checks.due("type of character " + (int) characters[index], index + 1, plate.type(characters[index]));
        }
        for (int length = characters.length + 1; length <= 60; length++) {
            checks.due("type", length, plate.type('t'));
        }
        checks.due("type of one more", -3, plate.type('t'));
        checks.due("count(16)", 60, plate.count(16));
        checks.due("type is no act", 0, plate.count(15));
    }

    private static void clearText() {
        BowedPlate plate = withText("t0x");
        checks.due("clearText()", 3, plate.clearText());
        checks.due("count(16)", 0, plate.count(16));
        checks.due("clearText() of none", 0, plate.clearText());
        checks.due("clearText is no act", 0, plate.count(15));
        typeAll(plate, "r1");
        checks.due("bowAll() of the new text", 1, plate.bowAll());
        checks.due("waiting(0, 0)", 1, plate.waiting(0, 0));
    }

    private static void reads(String text, int... due) {
        BowedPlate plate = withText(text);
        checks.due("bowAll() of " + text, due.length / 3, plate.bowAll());
        for (int index = 0; index < due.length; index++) {
            checks.due(text + ": waiting(" + index / 3 + ", " + index % 3 + ")",
                    due[index], plate.waiting(index / 3, index % 3));
        }
        checks.due(text + ": as many wait", due.length / 3, plate.count(5));
        checks.due(text + ": it stays", text.length(), plate.count(16));
        checks.due(text + ": one act", 1, plate.count(15));
    }

    private static void textsWithoutFault() {
        reads("t0", 0, 0, 1);
        reads("r9", 1, 9, 1);
        reads("b10", 2, 10, 1);
        reads("l11", 3, 11, 1);
        reads("t1", 0, 1, 1);
        reads("t0x1", 0, 0, 1);
        reads("r5x9", 1, 5, 9);
        reads("b11x10", 2, 11, 10);
        reads("l2x20", 3, 2, 20);
        reads("t3x2", 0, 3, 2);
        reads("t0x19,r11,b10x3", 0, 0, 19, 1, 11, 1, 2, 10, 3);
        reads("l0,l0,l0", 3, 0, 1, 3, 0, 1, 3, 0, 1);
    }

    private static void textsWithFault() {
        String[] texts = {
            "", "t", "t1x", "t0,", "t0x1,", "t0,r",
            "x", "1", ",", "T0", " t0", "tt", "tx", "t,", "t-1",
            "t00", "t01", "t12", "t19", "t20", "t110", "t2 ", "t0 ", "t0r", "t11r", "t0;r0",
            "t1x0", "t1x01", "t1x21", "t1x29", "t1x30", "t1x200", "t1x100", "t1xx", "t1x,", "t1x3x", "t1x3r",
            "t0,,r0", "t0,r12", "t0,r0x21", "t0,0", "t0x20,b11x2,l1q",
        };
        int[] faults = {
            0, 1, 3, 3, 5, 4,
            0, 0, 0, 0, 0, 1, 1, 1, 1,
            2, 2, 2, 2, 2, 3, 2, 2, 2, 3, 2,
            3, 3, 4, 4, 4, 5, 5, 3, 3, 4, 4,
            3, 5, 7, 3, 14,
        };
        checks.due("rows", texts.length, faults.length);
        for (int row = 0; row < texts.length; row++) {
            BowedPlate plate = withText(texts[row]);
            checks.due("bowAll() of '" + texts[row] + "'", -100 - faults[row], plate.bowAll());
            checks.due("nothing waits", 0, plate.count(5));
            checks.due("nothing is recorded", 0, plate.count(15));
            checks.due("the text stays", texts[row].length(), plate.count(16));
        }
    }

    private static void charactersThatAreNotLetters() {
        // at each place of t1x1,r1 one character is put that is allowed at none of them
        String text = "t1x1,r1";
        for (int place = 0; place < text.length(); place++) {
            for (char wrong : new char[] {'/', ':', (char) 0, (char) 377, (char) 65535, (char) 0x661}) {
                BowedPlate plate = withText(text.substring(0, place) + wrong + text.substring(place + 1));
                checks.due("bowAll() with character " + (int) wrong + " at " + place,
                        -100 - place, plate.bowAll());
            }
        }
    }

    private static void bowAllPutsThemBehind() {
        BowedPlate plate = withText("r3x4,b5");
        plate.bow(0, 8, 9);
        checks.due("bowAll()", 2, plate.bowAll());
        checks.due("bowAll() again", 2, plate.bowAll());
        checks.due("count(5)", 5, plate.count(5));
        int[] sides = {0, 1, 2, 1, 2};
        for (int place = 0; place < sides.length; place++) {
            checks.due("waiting(" + place + ", 0)", sides[place], plate.waiting(place, 0));
        }
        checks.due("undo() takes all of them back", 2, plate.undo());
        checks.due("count(5)", 3, plate.count(5));
        checks.due("the text is no part of the state", 7, plate.count(16));
    }

    private static void bowAllAllOrNone() {
        BowedPlate plate = withText("t0,t1,t2,t3");
        for (int bowing = 0; bowing < 13; bowing++) {
            plate.bow(3, 0, 1);
        }
        checks.due("bowAll(): 17 would wait", -3, plate.bowAll());
        checks.due("count(5)", 13, plate.count(5));
        plate.undo();
        checks.due("bowAll(): 16 wait", 4, plate.bowAll());
        checks.due("count(5)", 16, plate.count(5));
        checks.due("bowAll() when full", -3, plate.bowAll());
        plate.type('?');
        checks.due("the fault goes ahead of full", -111, plate.bowAll());
    }

    private static void fullTexts() {
        String sixteen = "t0,t1,t2,t3,t4,t5,t6,t7,t8,t9,r0,r1,r2,r3,r4,r5";
        BowedPlate plate = withText(sixteen);
        checks.due("bowAll() of 16", 16, plate.bowAll());
        checks.due("waiting(15, 1)", 5, plate.waiting(15, 1));
        checks.due("bowAll() of 17", -3, withText(sixteen + ",r6").bowAll());
        String sixty = sixteen + ",r6,r7,r8,l11";
        checks.due("a text of 60 characters", 60, sixty.length());
        checks.due("bowAll() of 20", -3, withText(sixty).bowAll());
        String long60 = "t10x10,t10x10,t10x10,t10x10,t10x10,t10x10,t10x10,t10x10,t11x";
        checks.due("a text of 60 characters", 60, long60.length());
        plate = withText(long60);
        checks.due("bowAll() that ends too early", -160, plate.bowAll());
        checks.due("type into a full text", -3, plate.type('1'));
        checks.due("bowAll() once more", -160, plate.bowAll());
        plate.clearText();
        typeAll(plate, long60.substring(0, 56));
        checks.due("bowAll() that ends with a comma", -156, plate.bowAll());
        plate.type('l');
        plate.type('9');
        checks.due("bowAll() of 9", 9, plate.bowAll());
    }
}
