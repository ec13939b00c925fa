/** Promises 22 to 24: the dock text. */
final class TextTest {
    private static final Due DUE = new Due("TextTest");

    public static void main(String[] args) {
        promise22();
        promise23();
        promise24();
        promise24AndShips();
        promise24AndItsEdges();
        promise24AndItsErrors();
        promise24AndRanges();
        promise24AndManyBlocks();
        DUE.end();
    }

    private static void promise22() {
        KeelBlocks dock = new KeelBlocks();
        DUE.is("least", dock.append(0), 1);
        DUE.is("greatest", dock.append(127), 2);
        DUE.illegalArgument("128", () -> dock.append(128));
        DUE.illegalArgument("-1", () -> dock.append(-1));
        DUE.illegalArgument("far below", () -> dock.append(Integer.MIN_VALUE));
        DUE.illegalArgument("far above", () -> dock.append(Integer.MAX_VALUE));
        for (int i = 3; i <= 160; i++) {
            DUE.is("length", dock.append('b'), i);
        }
        DUE.illegalState("the 161st", () -> dock.append('b'));
        DUE.illegalArgument("the argument comes first", () -> dock.append(128));
        DUE.illegalState("it is not undoable", () -> dock.undo());
        DUE.is("length at last", dock.clearText(), 160);
    }

    private static void promise23() {
        KeelBlocks dock = new KeelBlocks();
        DUE.is("empty", dock.clearText(), 0);
        Plans.enter(dock, "b1,1,1,1");
        DUE.is("eight", dock.clearText(), 8);
        DUE.is("empty again", dock.clearText(), 0);
        DUE.illegalState("it is not undoable", () -> dock.undo());
        DUE.is("from the start", dock.append('s'), 1);
        DUE.is("the old bytes are gone", dock.parse(), -11);
    }

    private static int parsed(String text) {
        KeelBlocks dock = new KeelBlocks();
        dock.addBlock(1, 2, 3, 4);
        Plans.enter(dock, text);
        String before = Plans.state(dock);
        int answer = dock.parse();
        if (answer < 0) {
            DUE.is("nothing changes by " + text, Plans.state(dock), before);
        }
        DUE.is("the text stays as it is", dock.clearText(), text.length());
        return answer;
    }

    private static void due(String text, int want) {
        DUE.is("parse() of " + text, parsed(text), want);
    }

    private static void error(String text, int position) {
        due(text, -10 - position);
    }

    private static void promise24() {
        KeelBlocks dock = Plans.five(1, 1, 1);
        dock.cascade();
        Plans.enter(dock, "b100,10,-7,500;b300,20,50,99999;s1000,150;b400,1,0,1;");
        DUE.is("blocks", dock.parse(), 3);
        DUE.is("places", Plans.about(dock, 0), "100 300 400");
        DUE.is("stiffnesses", Plans.about(dock, 1), "10 20 1");
        DUE.is("caps", Plans.about(dock, 2), "-7 50 0");
        DUE.is("limits", Plans.about(dock, 3), "500 99999 1");
        DUE.is("all stand", Plans.about(dock, 4), "0 0 0");
        DUE.is("none is shaved", Plans.about(dock, 8), "0 0 0");
        DUE.is("weight", dock.value(0), 1000);
        DUE.is("center", dock.value(1), 150);
        DUE.is("once more", dock.parse(), 3);
        DUE.is("undone", dock.undo(), 3);
        DUE.is("and again", dock.undo(), 2);
        DUE.is("the crushed ones are back", Plans.about(dock, 4), "2 2 2 2 2");
        Plans.enter(dock, "b1,1,1,1");
        DUE.is("no end", dock.parse(), -18);
        DUE.is("an error is not undoable", dock.undo(), 1);
        // fewer blocks than before
        KeelBlocks fewer = Plans.five(999, 999, 999);
        Plans.enter(fewer, "b100,1,0,500;b300,1,0,500;");
        DUE.is("two", fewer.parse(), 2);
        DUE.is("two stand", fewer.value(3), 2);
        DUE.is("loads on two", Plans.loads(fewer), "500 500");
        // a block that was crushed, in the place of which there comes another
        KeelBlocks crushed = Plans.five(500, 249, 199);
        crushed.cascade();
        Plans.enter(crushed, "b100,1,0,500;b200,1,0,500;b300,1,0,500;");
        crushed.parse();
        crushed.pull(1);
        DUE.is("pulled out, not crushed", Plans.about(crushed, 4), "0 1 0");
        // a block that was shaved, in the place of which there comes another
        KeelBlocks shaved = Plans.of("b100,1,0,400;b300,1,0,400;");
        shaved.shave();
        Plans.enter(shaved, "b100,1,0,400;b300,1,0,400;");
        shaved.parse();
        DUE.is("not shaved any more", Plans.about(shaved, 8), "0 0");
        DUE.is("no cap any more", Plans.about(shaved, 2), "0 0");
    }

    private static void promise24AndShips() {
        KeelBlocks dock = Plans.of("b1,1,1,1;s5,6;b2,1,1,1;s7,8;");
        DUE.is("the last weight", dock.value(0), 7);
        DUE.is("the last center", dock.value(1), 8);
        Plans.enter(dock, "b9,9,9,9;");
        DUE.is("one block", dock.parse(), 1);
        DUE.is("the weight stays", dock.value(0), 7);
        DUE.is("the center stays", dock.value(1), 8);
        Plans.enter(dock, "s100000,400;");
        DUE.is("no block", dock.parse(), 0);
        DUE.is("the greatest weight", dock.value(0), 100000);
        DUE.is("the greatest center", dock.value(1), 400);
        Plans.enter(dock, "s1,0;b1,1,1,1;s3,");
        DUE.is("an error behind a ship", dock.parse(), -27);
        DUE.is("leaves the weight", dock.value(0), 100000);
    }

    private static void promise24AndItsEdges() {
        due("", 0);
        due("b0,1,-50,1;", 1);
        due("b400,100,50,99999;", 1);
        due("b000,001,-01,00001;", 1);
        due("s000001,000;", 0);
        KeelBlocks dock = Plans.of("b007,010,-0,00020;b1,1,00,1;b1,1,-00,1;b1,1,-09,1;");
        DUE.is("zeros in front", dock.block(0, 0) + dock.block(0, 1) + dock.block(0, 3), 37);
        DUE.is("caps", Plans.about(dock, 2), "0 0 0 -9");
    }

    private static void promise24AndItsErrors() {
        String whole = "b10,10,-10,10;s10,10;";
        for (int length = 1; length < whole.length(); length++) {
            String cut = whole.substring(0, length);
            if (length == 14) {
                due(cut, 1);
            } else {
                error(cut, length);
            }
            error(cut + "x", length);
            error(cut + " ", length);
            error(cut + (char) 0, length);
        }
        error("x", 0);
        error("B1,1,1,1;", 0);
        error(";", 0);
        error("1", 0);
        error("bb", 1);
        error("bs", 1);
        error("b,", 1);
        error("b-1,1,1,1;", 1);
        error("b1;", 2);
        error("b1,;", 3);
        error("b1,-1", 3);
        error("b1,1,--1,1;", 6);
        error("b1,1,+1,1;", 5);
        error("b1,1,-,1;", 6);
        error("b1,1,-;", 6);
        error("b1,1,1-", 6);
        error("b1,1,1,-1;", 7);
        error("b1,1,1,1,", 8);
        error("b1,1,1;", 6);
        error("b1,1,1,1;;", 9);
        error("b1,1,1,1;,", 9);
        error("b1,1,1,1;b", 10);
        error("b1,1,1,1 ;", 8);
        error("s-1,1;", 1);
        error("s1,-1;", 3);
        error("s1;", 2);
        error("s1,1,", 4);
        error("s1,1;s", 6);
        // a digit too many, even if the number is out of its range with fewer digits
        error("b0001,", 4);
        error("b4010,", 4);
        error("b1,1000", 6);
        error("b1,9999", 6);
        error("b1,1,100", 7);
        error("b1,1,999", 7);
        error("b1,1,-100", 8);
        error("b1,1,1,000001;", 12);
        error("s0000001,", 7);
        error("s9999999,", 7);
        error("s1,4000", 6);
    }

    private static void promise24AndRanges() {
        // at the first digit, whichever byte is behind the number, and at the end of the text
        for (String behind : new String[] {",1,1,1;", ";", "x", "-", "b", " ", ""}) {
            error("b401" + behind, 1);
            error("b1,0" + behind, 3);
            error("b1,000" + behind, 3);
            error("b1,101" + behind, 3);
            error("b1,1,51" + behind, 5);
            error("b1,1,-51" + behind, 6);
            error("b1,1,1,0" + behind, 7);
            error("b1,1,1,00000" + behind, 7);
            error("s0" + behind, 1);
            error("s100001" + behind, 1);
            error("s1,401" + behind, 3);
            error("s1,999" + behind, 3);
        }
        // the first error is the one that counts
        error("b999,0,99,0;", 1);
        error("b1,1,99;", 5);
        error("b400,x", 5);
        error("s100000x", 7);
        error("b1,1,50x", 7);
        error("b1,1,-50x", 8);
        error("b1,1,50", 7);
    }

    private static void promise24AndManyBlocks() {
        StringBuilder text = new StringBuilder();
        for (int i = 0; i < 16; i++) {
            text.append("b").append(i % 10).append(",1,0,1;");
        }
        due(text.toString(), 16);
        due(text + "s1,1;s2,2;", 16);
        error(text + "b", 144);
        error(text + "b1,1,0,1;", 144);
        error(text + "s1,1;b1", 149);
        error(text + "s1,1;s", 150);
        KeelBlocks full = Plans.full();
        Plans.enter(full, text.toString());
        DUE.is("the blocks of before do not count", full.parse(), 16);
        StringBuilder ships = new StringBuilder();
        for (int i = 0; i < 32; i++) {
            ships.append("s1,").append(i % 10).append(";");
        }
        due(ships.toString(), 0);
        DUE.is("the last of 160 bytes", Plans.of(ships.toString()).value(1), 1);
    }

    private TextTest() {
    }
}
