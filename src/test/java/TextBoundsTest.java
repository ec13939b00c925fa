/** The boundaries of the dock text: "Terms" and promises 22 to 24; one method for each sentence. */
final class TextBoundsTest {
    private static final Due DUE = new Due("TextBoundsTest");

    public static void main(String[] args) {
        DUE.each(TextBoundsTest.class);
        DUE.end();
    }

    private static int parsed(String text) {
        KeelBlocks dock = new KeelBlocks();
        Plans.enter(dock, text);
        return dock.parse();
    }

    private static void due(String text, int want) {
        DUE.is("parse() of " + text, parsed(text), want);
    }

    private static void error(String text, int position) {
        due(text, -10 - position);
    }

    private static void hundredAndSixtyBytes() {
        DUE.sentence("Terms", "The text has at most 160 bytes.");
        KeelBlocks dock = new KeelBlocks();
        for (int i = 0; i < 159; i++) {
            dock.append('s');
        }
        DUE.is("160", dock.append('s'), 160);
        DUE.illegalState("161", () -> dock.append('s'));
        DUE.is("length", dock.clearText(), 160);
        due("s1,1;".repeat(32), 0);
        error("s1,1;".repeat(31) + "s1,1,", 159);
        error("s1,1;".repeat(31) + "s1,11", 160);
    }

    private static void termination() {
        DUE.sentence("Terms", "It is a sequence of items, each terminated by a semicolon");
        due("s1,1;", 0);
        due("b1,1,1,1;", 1);
        due("b1,1,1,1;s1,1;b1,1,1,1;", 2);
        error("b1,1,1,1", 8);
        error("b1,1,1,1;b1,1,1,1", 17);
        error("b1,1,1,1b1,1,1,1;", 8);
        error("b1,1,1,1,", 8);
        error("b1,1,1,1;;", 9);
        error(";", 0);
        error(";b1,1,1,1;", 0);
        error("s1,1", 4);
        error("s1,1,", 4);
    }

    private static void blocks() {
        DUE.sentence("Terms",
                "\"b\", the place, a comma, the stiffness, a comma, the cap (digits, or \"-\" and digits), "
                + "a comma, and the limit: a block");
        due("b1,1,1,1;", 1);
        due("b1,1,-1,1;", 1);
        error("B1,1,1,1;", 0);
        error("1,1,1,1;", 0);
        error("c1,1,1,1;", 0);
        error("a1,1,1,1;", 0);
        error("b1;", 2);
        error("b1;1,1,1;", 2);
        error("b1,1;", 4);
        error("b1,1,1;", 6);
        error("b1.1,1,1;", 2);
        error("b1,1,+1,1;", 5);
        error("b1,1,--1,1;", 6);
        error("b1,1,1-,1;", 6);
        error("b-1,1,1,1;", 1);
        error("b1,-1,1,1;", 3);
        error("b1,1,1,-1;", 7);
        KeelBlocks dock = Plans.of("b2,3,-4,5;");
        DUE.is("place, stiffness, cap and limit",
                dock.block(0, 0) + " " + dock.block(0, 1) + " " + dock.block(0, 2) + " " + dock.block(0, 3),
                "2 3 -4 5");
    }

    private static void ships() {
        DUE.sentence("Terms", "or \"s\", the weight, a comma, and the center of gravity: the ship");
        due("s1,1;", 0);
        error("S1,1;", 0);
        error("t1,1;", 0);
        error("r1,1;", 0);
        error("s1;", 2);
        error("s1;1;", 2);
        error("s-1,1;", 1);
        error("s1,-1;", 3);
        error("s1,1,1;", 4);
        KeelBlocks dock = Plans.of("s2,3;");
        DUE.is("weight", dock.value(0), 2);
        DUE.is("center", dock.value(1), 3);
    }

    private static void threeDigits() {
        DUE.sentence("Terms", "Places, stiffnesses and the center have one to three digits");
        error("b,1,1,1;", 1);
        due("b1,1,1,1;", 1);
        due("b001,1,1,1;", 1);
        error("b0001,1,1,1;", 4);
        error("b1,,1,1;", 3);
        due("b1,001,1,1;", 1);
        error("b1,0001,1,1;", 6);
        error("s1,;", 3);
        due("s1,001;", 0);
        error("s1,0001;", 6);
    }

    private static void capDigits() {
        DUE.sentence("Terms", "caps one or two");
        error("b1,1,,1;", 5);
        error("b1,1,-,1;", 6);
        due("b1,1,1,1;", 1);
        due("b1,1,01,1;", 1);
        due("b1,1,-01,1;", 1);
        error("b1,1,001,1;", 7);
        error("b1,1,-001,1;", 8);
    }

    private static void limitDigits() {
        DUE.sentence("Terms", "limits one to five");
        error("b1,1,1,;", 7);
        due("b1,1,1,1;", 1);
        due("b1,1,1,00001;", 1);
        error("b1,1,1,000001;", 12);
    }

    private static void weightDigits() {
        DUE.sentence("Terms", "the weight one to six.");
        error("s,1;", 1);
        due("s1,1;", 0);
        due("s000001,1;", 0);
        due("s100000,1;", 0);
        error("s0000001,1;", 7);
    }

    private static void spaces() {
        DUE.sentence("Terms", "There are no spaces");
        String whole = "b1,1,-1,1;s1,1;";
        for (int at = 0; at <= whole.length(); at++) {
            error(whole.substring(0, at) + " " + whole.substring(at), at);
        }
    }

    private static void noItems() {
        DUE.sentence("Terms", "there may be no items.");
        due("", 0);
        KeelBlocks dock = Plans.of("b100,1,0,9;b300,1,0,9;s7,8;");
        DUE.is("no items", dock.parse(), 0);
        DUE.is("no blocks", dock.value(2), 0);
        DUE.is("the weight stays", dock.value(0), 7);
        DUE.is("the center stays", dock.value(1), 8);
        DUE.is("it is saved", dock.undo(), 1);
        DUE.is("blocks again", dock.value(2), 2);
    }

    private static void zerosInFront() {
        DUE.sentence("Terms", "Numbers can have zeros in front");
        KeelBlocks dock = Plans.of("b007,008,-09,00010;b000,010,09,01000;s000011,012;");
        DUE.is("places", Plans.about(dock, 0), "7 0");
        DUE.is("stiffnesses", Plans.about(dock, 1), "8 10");
        DUE.is("caps", Plans.about(dock, 2), "-9 9");
        DUE.is("limits", Plans.about(dock, 3), "10 1000");
        DUE.is("weight", dock.value(0), 11);
        DUE.is("center", dock.value(1), 12);
    }

    private static void minusZero() {
        DUE.sentence("Terms", "\"-0\" is 0.");
        KeelBlocks dock = Plans.of("b1,1,-0,1;b1,1,-00,1;b1,1,0,1;");
        DUE.is("caps", Plans.about(dock, 2), "0 0 0");
    }

    private static void firstByteThatCannotStand() {
        DUE.sentence("Terms",
                "The syntax error position is the index of the first byte that cannot stand where it stands");
        String whole = "b10,10,-10,10;s10,10;";
        for (int at = 0; at < whole.length(); at++) {
            for (int sign : new int[] {0, 32, '/', ':', 'x', 127}) {
                error(whole.substring(0, at) + (char) sign + whole.substring(at + 1), at);
            }
        }
        error("xx", 0);
        error("bxx", 1);
        error("bb1,1,1,1;", 1);
        error("ss1,1;", 1);
        error("b1,1,1,1;x", 9);
        error("b1,1,1,1;s1,1;,", 14);
    }

    private static void digitTooMany() {
        DUE.sentence("Terms", "(a digit too many,");
        error("b1000", 4);
        error("b4010,1,1,1;", 4);
        error("b9999,1,1,1;", 4);
        error("b1,1000,1,1;", 6);
        error("b1,1,510,1;", 7);
        error("b1,1,-510,1;", 8);
        error("b1,1,1,100000;", 12);
        error("s1000000,1;", 7);
        error("s9999999,1;", 7);
        error("s1,4010;", 6);
    }

    private static void seventeenthBlock() {
        DUE.sentence("Terms", "the \"b\" of a 17th block, too)");
        String sixteen = "b1,1,1,1;".repeat(16);
        due(sixteen, 16);
        error(sixteen + "b", 144);
        error(sixteen + "b1,1,1,1;", 144);
        error(sixteen + "bx", 144);
        due(sixteen + "s1,1;", 16);
        error(sixteen + "s1,1;b1,1,1,1;", 149);
        KeelBlocks full = Plans.full();
        Plans.enter(full, "b1,1,1,1;");
        DUE.is("the blocks of before do not count", full.parse(), 1);
    }

    private static void textThatEndsTooEarly() {
        DUE.sentence("Terms", "or the length of the text if the text ends too early.");
        String whole = "b10,10,-10,10;s10,10;";
        for (int length = 1; length < whole.length(); length++) {
            if (length != 14) {
                error(whole.substring(0, length), length);
            }
        }
        error("b400", 4);
        error("b1,1,-50", 8);
        error("s100000", 7);
    }

    private static void firstDigitOfANumberOutOfRange() {
        DUE.sentence("Terms",
                "For a number that is out of its range it is the index of its first digit (not of the sign)");
        error("b401,1,1,1;", 1);
        error("b1,0,1,1;", 3);
        error("b1,101,1,1;", 3);
        error("b1,1,51,1;", 5);
        error("b1,1,-51,1;", 6);
        error("b1,1,-99,1;", 6);
        error("b1,1,1,0;", 7);
        error("b1,1,1,00000;", 7);
        error("s0,1;", 1);
        error("s100001,1;", 1);
        error("s1,401;", 3);
        error("b1,000,1,1;", 3);
        error("b999,0,99,0;", 1);
    }

    private static void whateverFollowsTheNumber() {
        DUE.sentence("Terms",
                "found when a byte that is no digit, whichever it is, or the end of the text, follows it.");
        String[] signs = {",", ";", "-", "b", "s", " ", "/", ":", "x", "" + (char) 0, "" + (char) 127, ""};
        for (String behind : signs) {
            error("b401" + behind, 1);
            error("b1,0" + behind, 3);
            error("b1,1,51" + behind, 5);
            error("b1,1,-51" + behind, 6);
            error("b1,1,1,0" + behind, 7);
            error("s0" + behind, 1);
            error("s1,401" + behind, 3);
        }
        // as long as a digit can follow, it is not found
        error("b1,1,1,00", 7);
        due("b1,1,1,01;", 1);
        due("b1,01,1,1;", 1);
        due("s01,1;", 0);
    }

    private static void rangesOfTheText() {
        DUE.sentence("Terms", "For a number that is out of its range");
        due("b0,1,-50,1;", 1);
        due("b400,100,50,99999;", 1);
        due("s1,0;", 0);
        due("s100000,400;", 0);
        // a ship that a later one replaces counts, too
        error("s0,1;s1,1;", 1);
    }

    private static void rangeOfTheByte() {
        DUE.sentence("Promise 22", "- `value`: the byte, 0 to 127");
        for (int value = 0; value <= 127; value++) {
            KeelBlocks dock = new KeelBlocks();
            DUE.is("append(" + value + ")", dock.append(value), 1);
            DUE.is("parse() of byte " + value, dock.parse(), value == 'b' || value == 's' ? -11 : -10);
        }
        DUE.illegalArgument("append(-1)", () -> new KeelBlocks().append(-1));
        DUE.illegalArgument("append(128)", () -> new KeelBlocks().append(128));
    }

    private static void appendedLength() {
        DUE.sentence("Promise 22", "Returns the new length of the text.");
        KeelBlocks dock = new KeelBlocks();
        for (int length = 1; length <= 160; length++) {
            DUE.is("append", dock.append(length % 128), length);
        }
        dock.clearText();
        DUE.is("append to an empty text", dock.append(1), 1);
    }

    private static void appendedOutOfRange() {
        DUE.sentence("Promise 22", "Throws `IllegalArgumentException` if value is out of range");
        KeelBlocks dock = new KeelBlocks();
        for (int value : new int[] {Integer.MIN_VALUE, -1, 128, 255, 256, Integer.MAX_VALUE}) {
            DUE.illegalArgument("append(" + value + ")", () -> dock.append(value));
        }
        DUE.is("0", dock.append(0), 1);
        DUE.is("127", dock.append(127), 2);
    }

    private static void appendedToAFullText() {
        DUE.sentence("Promise 22", "Throws `IllegalStateException` if the text has 160 bytes");
        KeelBlocks dock = new KeelBlocks();
        Plans.enter(dock, "s1,1;".repeat(32));
        DUE.illegalState("append to a full text", () -> dock.append(';'));
        DUE.is("the text is whole", dock.parse(), 0);
        DUE.is("length", dock.clearText(), 160);
        DUE.is("room again", dock.append(';'), 1);
    }

    private static void emptiedText() {
        DUE.sentence("Promise 23", "Empties the dock text.");
        KeelBlocks dock = new KeelBlocks();
        Plans.enter(dock, "s1,1;".repeat(32));
        dock.clearText();
        DUE.is("no items", dock.parse(), 0);
        DUE.is("the weight stays", dock.value(0), 1000);
        Plans.enter(dock, "s");
        DUE.is("the bytes of before are not read", dock.parse(), -11);
    }

    private static void clearedText() {
        DUE.sentence("Promise 23", "Returns the length that it had.");
        KeelBlocks dock = new KeelBlocks();
        DUE.is("empty", dock.clearText(), 0);
        dock.append('b');
        DUE.is("one byte", dock.clearText(), 1);
        DUE.is("empty again", dock.clearText(), 0);
        DUE.is("nothing is left of it", dock.parse(), 0);
    }

    private static void parsedBlocks() {
        DUE.sentence("Promise 24", "Makes the blocks those of the text, all standing and not shaved");
        KeelBlocks dock = Plans.of("b0,10,0,999;b100,10,0,999;b200,10,0,180;b300,10,0,999;b400,10,0,999;");
        dock.shave();
        dock.setLimit(2, 999);
        dock.pull(1);
        dock.setLimit(0, 1);
        dock.cascade();
        Plans.enter(dock, "b1,1,1,1;b2,1,1,1;b3,1,1,1;");
        DUE.is("fewer than before", dock.parse(), 3);
        DUE.is("places", Plans.about(dock, 0), "1 2 3");
        DUE.is("all stand", Plans.about(dock, 4), "0 0 0");
        DUE.is("and no other", dock.value(3), 3);
        DUE.is("none is shaved", Plans.about(dock, 8), "0 0 0");
        DUE.outOfBounds("no block 3", () -> dock.block(3, 0));
        DUE.is("the next one", dock.addBlock(4, 1, 1, 1), 3);
        DUE.is("is not shaved", dock.block(3, 8), 0);
    }

    private static void parsedShip() {
        DUE.sentence("Promise 24", "the ship becomes the last one of the text, if there is one.");
        KeelBlocks dock = Plans.of("s5,6;b1,1,1,1;s7,8;b1,1,1,1;");
        DUE.is("the last weight", dock.value(0), 7);
        DUE.is("the last center", dock.value(1), 8);
        Plans.enter(dock, "b1,1,1,1;");
        dock.parse();
        DUE.is("the weight stays", dock.value(0), 7);
        DUE.is("the center stays", dock.value(1), 8);
    }

    private static void parsedTextStays() {
        DUE.sentence("Promise 24", "The text stays as it is.");
        KeelBlocks dock = new KeelBlocks();
        Plans.enter(dock, "b1,1,1,1;");
        dock.parse();
        DUE.is("once more", dock.parse(), 1);
        DUE.is("one byte more", dock.append('x'), 10);
        DUE.is("with an error", dock.parse(), -19);
        DUE.is("length", dock.clearText(), 10);
    }

    private static void parsedNumber() {
        DUE.sentence("Promise 24", "Returns the number of blocks");
        due("", 0);
        due("s1,1;", 0);
        due("b1,1,1,1;", 1);
        due("b1,1,1,1;".repeat(16), 16);
    }

    private static void parsedWithAnError() {
        DUE.sentence("Promise 24",
                "-10 minus the syntax error position if there is a syntax error (then nothing changes).");
        for (String text : new String[] {"x", "s1,1;x", "b1,1,1,1;b", "s1,1;b1,1,1,1;b2,2,2,2"}) {
            KeelBlocks dock = Plans.five(499, 249, 199);
            Plans.enter(dock, text);
            String before = Plans.state(dock);
            DUE.is("an error in the last byte or behind it", -10 - dock.parse() >= text.length() - 1, true);
            DUE.is("nothing changes", Plans.state(dock), before);
            DUE.is("nothing is saved", dock.undo(), 0);
        }
        error("x", 0);
        error("b", 1);
        error("s1,1;".repeat(31) + "s1,11", 160);
    }

    private static void parseIsUndoable() {
        DUE.sentence("Promise 24", "Undoable, if there is no syntax error.");
        KeelBlocks dock = new KeelBlocks();
        Plans.enter(dock, "s1,1;b1,1,1,1;");
        dock.parse();
        DUE.is("without an error", dock.undo(), 0);
        DUE.is("weight", dock.value(0), 1000);
        DUE.is("blocks", dock.value(2), 0);
        dock.append('x');
        dock.parse();
        DUE.illegalState("with an error", () -> dock.undo());
    }

    private TextBoundsTest() {
    }
}
