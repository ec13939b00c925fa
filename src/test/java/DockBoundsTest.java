/** The boundaries that promises 1 to 7 and 10 to 13 name; one method for each sentence. */
final class DockBoundsTest {
    private static final Due DUE = new Due("DockBoundsTest");
    private static final int LEAST = Integer.MIN_VALUE;
    private static final int MOST = Integer.MAX_VALUE;
    private static final String NO_BLOCK = "Throws `IndexOutOfBoundsException` if there is no such block";
    private static final String NO_WHAT = "Throws `IllegalArgumentException` if what is out of range";

    public static void main(String[] args) {
        DUE.each(DockBoundsTest.class);
        DUE.end();
    }

    private static void constant() {
        DUE.sentence("Terms", "`NONE = -1`: There is no such thing.");
        DUE.is("NONE", KeelBlocks.NONE, -1);
    }

    private static void newObject() {
        DUE.sentence("Promise 1", "Creates a dock without blocks, with the initial ship.");
        KeelBlocks dock = new KeelBlocks();
        DUE.is("blocks", dock.value(2), 0);
        DUE.is("weight", dock.value(0), 1000);
        DUE.is("center", dock.value(1), 200);
        DUE.outOfBounds("no block 0", () -> dock.block(0, 0));
        DUE.illegalState("nothing is saved", () -> dock.undo());
        DUE.is("nothing in the text", dock.clearText(), 0);
    }

    private static void addedBlock() {
        DUE.sentence("Promise 2", "Adds a block. Undoable.");
        KeelBlocks dock = new KeelBlocks();
        dock.addBlock(0, 1, -50, 1);
        DUE.is("blocks", dock.value(2), 1);
        DUE.is("it is undone", dock.undo(), 0);
        DUE.is("no blocks", dock.value(2), 0);
    }

    private static void addedNumber() {
        DUE.sentence("Promise 2", "Returns the number of the block.");
        KeelBlocks dock = new KeelBlocks();
        for (int i = 0; i < 16; i++) {
            DUE.is("number", dock.addBlock(400 - i, 1, 0, 1), i);
        }
    }

    private static void addedOutOfRange() {
        DUE.sentence("Promise 2", "Throws `IllegalArgumentException` if an argument is out of range");
        KeelBlocks dock = new KeelBlocks();
        int[][] wrong = {{-1, 1, 0, 1}, {401, 1, 0, 1}, {LEAST, 1, 0, 1}, {MOST, 1, 0, 1},
            {0, 0, 0, 1}, {0, 101, 0, 1}, {0, LEAST, 0, 1}, {0, MOST, 0, 1}, {0, -1, 0, 1},
            {0, 1, -51, 1}, {0, 1, 51, 1}, {0, 1, LEAST, 1}, {0, 1, MOST, 1},
            {0, 1, 0, 0}, {0, 1, 0, 100000}, {0, 1, 0, LEAST}, {0, 1, 0, MOST}, {0, 1, 0, -1},
            {401, 101, 51, 100000}};
        for (int[] w : wrong) {
            DUE.illegalArgument("addBlock(" + w[0] + ", " + w[1] + ", " + w[2] + ", " + w[3] + ")",
                    () -> dock.addBlock(w[0], w[1], w[2], w[3]));
        }
        DUE.is("no block is added", dock.value(2), 0);
        DUE.is("the least of all", dock.addBlock(0, 1, -50, 1), 0);
        DUE.is("the greatest of all", dock.addBlock(400, 100, 50, 99999), 1);
    }

    private static void addedToSixteen() {
        DUE.sentence("Promise 2", "Throws `IllegalStateException` if there are 16 blocks");
        KeelBlocks dock = Plans.full();
        DUE.illegalState("a 17th", () -> dock.addBlock(0, 1, 0, 1));
        dock.pull(8);
        DUE.illegalState("a 17th with one that is out", () -> dock.addBlock(0, 1, 0, 1));
        dock.undo();
        dock.undo();
        DUE.is("fifteen", dock.addBlock(0, 1, 0, 1), 15);
    }

    /** A call of one argument that is tried with the ends of a range. */
    private interface Tried {
        long with(int argument);
    }

    /** The numbers least to greatest are taken, and those just outside, or far away, are not. */
    private static void range(String promise, String words, int least, int greatest, Tried call) {
        DUE.sentence(promise, words);
        for (int argument : new int[] {LEAST, least - 1, greatest + 1, MOST}) {
            DUE.illegalArgument("with " + argument, () -> call.with(argument));
        }
        for (int argument : new int[] {least, least + 1, greatest - 1, greatest}) {
            DUE.is("with " + argument, Due.outcome(() -> call.with(argument)).startsWith("throws"), false);
        }
    }

    private static void rangesOfAddedBlocks() {
        range("Promise 2", "- `place`: 0 to 400", 0, 400, place -> new KeelBlocks().addBlock(place, 1, 0, 1));
        range("Promise 2", "- `stiffness`: 1 to 100", 1, 100, hard -> new KeelBlocks().addBlock(0, hard, 0, 1));
        range("Promise 2", "- `cap`: -50 to 50", -50, 50, cap -> new KeelBlocks().addBlock(0, 1, cap, 1));
        range("Promise 2", "- `limit`: 1 to 99999", 1, 99999, limit -> new KeelBlocks().addBlock(0, 1, 0, limit));
    }

    private static void rangeOfTheCap() {
        range("Promise 3", "- `cap`: -50 to 50", -50, 50, cap -> Plans.of("b1,1,0,1;").setCap(0, cap));
    }

    private static void rangeOfTheLimit() {
        range("Promise 4", "- `limit`: 1 to 99999", 1, 99999, limit -> Plans.of("b1,1,0,1;").setLimit(0, limit));
    }

    private static void rangesOfTheShip() {
        range("Promise 5", "- `weight`: 1 to 100000", 1, 100000, weight -> new KeelBlocks().setShip(weight, 200));
        range("Promise 5", "- `center`: 0 to 400", 0, 400, center -> new KeelBlocks().setShip(1000, center));
    }

    private static void capIsSet() {
        DUE.sentence("Promise 3", "Sets the cap of a block. Undoable.");
        KeelBlocks dock = Plans.of("b100,1,0,9;b200,1,0,9;b300,1,0,9;");
        dock.setCap(1, 3);
        // 332.33, 335.33 and 332.33
        DUE.is("the balance with it", Plans.loads(dock), "333 335 332");
        DUE.is("it is undone", dock.undo(), 1);
        DUE.is("caps", Plans.about(dock, 2), "0 0 0");
        DUE.is("the balance without it", Plans.loads(dock), "334 333 333");
        // one that is out gets its cap, too
        dock.setLimit(0, 999);
        dock.setLimit(2, 999);
        dock.pull(1);
        dock.setCap(1, 3);
        DUE.is("a block that is out", dock.put(1), 335);
    }

    private static void limitIsSet() {
        DUE.sentence("Promise 4", "Sets the limit of a block. Undoable.");
        KeelBlocks dock = Plans.of("b100,1,0,500;b300,1,0,500;");
        dock.setLimit(1, 499);
        DUE.is("what is overloaded with it", Plans.about(dock, 7), "0 1");
        DUE.is("it is undone", dock.undo(), 1);
        DUE.is("limits", Plans.about(dock, 3), "500 500");
        DUE.is("what is overloaded without it", Plans.about(dock, 7), "0 0");
    }

    private static void shipIsSet() {
        DUE.sentence("Promise 5", "Sets the ship. Undoable.");
        KeelBlocks dock = Plans.of("b100,1,0,500;b300,1,0,500;");
        dock.setShip(2000, 150);
        DUE.is("the balance with it", Plans.loads(dock), "1500 500");
        DUE.is("it is undone", dock.undo(), 1);
        DUE.is("the balance without it", Plans.loads(dock), "500 500");
    }

    private static void cap() {
        DUE.sentence("Promise 3", "Returns the previous cap.");
        KeelBlocks dock = Plans.of("b100,1,7,999;b300,1,-7,999;");
        DUE.is("the previous one", dock.setCap(0, -50), 7);
        DUE.is("the least one", dock.setCap(0, 50), -50);
        DUE.is("the greatest one", dock.setCap(0, 50), 50);
        DUE.is("the same one is set and saved", dock.undo(), 3);
        DUE.is("caps", Plans.about(dock, 2), "50 -7");
    }

    private static void capOfNoBlock() {
        DUE.sentence("Promise 3", NO_BLOCK);
        KeelBlocks dock = Plans.of("b100,1,0,999;b300,1,0,999;");
        for (int block : new int[] {LEAST, -1, 2, 15, 16, MOST}) {
            DUE.outOfBounds("block " + block, () -> dock.setCap(block, 1));
        }
        DUE.is("the last block", dock.setCap(1, 1), 0);
        DUE.outOfBounds("none at all", () -> new KeelBlocks().setCap(0, 0));
        DUE.is("block 15", Plans.full().setCap(15, 1), 0);
        DUE.outOfBounds("block 16 of 16", () -> Plans.full().setCap(16, 0));
    }

    private static void capOutOfRange() {
        DUE.sentence("Promise 3", "Throws `IllegalArgumentException` if cap is out of range");
        KeelBlocks dock = Plans.of("b100,1,0,999;");
        for (int cap : new int[] {LEAST, -51, 51, MOST}) {
            DUE.illegalArgument("cap " + cap, () -> dock.setCap(0, cap));
        }
        DUE.is("the cap stays", dock.block(0, 2), 0);
        DUE.is("-50", dock.setCap(0, -50), 0);
        DUE.is("50", dock.setCap(0, 50), -50);
    }

    private static void limit() {
        DUE.sentence("Promise 4", "Returns the previous limit.");
        KeelBlocks dock = Plans.of("b100,1,0,7;b300,1,0,8;");
        DUE.is("the previous one", dock.setLimit(1, 1), 8);
        DUE.is("the least one", dock.setLimit(1, 99999), 1);
        DUE.is("the greatest one", dock.setLimit(1, 99999), 99999);
        DUE.is("the same one is set and saved", dock.undo(), 3);
        DUE.is("limits", Plans.about(dock, 3), "7 99999");
    }

    private static void limitOfNoBlock() {
        DUE.sentence("Promise 4", NO_BLOCK);
        KeelBlocks dock = Plans.of("b100,1,0,7;b300,1,0,8;");
        for (int block : new int[] {LEAST, -1, 2, 15, 16, MOST}) {
            DUE.outOfBounds("block " + block, () -> dock.setLimit(block, 1));
        }
        DUE.is("the last block", dock.setLimit(1, 1), 8);
        DUE.outOfBounds("none at all", () -> new KeelBlocks().setLimit(0, 1));
        DUE.is("block 15", Plans.full().setLimit(15, 1), 5000);
        DUE.outOfBounds("block 16 of 16", () -> Plans.full().setLimit(16, 1));
    }

    private static void limitOutOfRange() {
        DUE.sentence("Promise 4", "Throws `IllegalArgumentException` if limit is out of range");
        KeelBlocks dock = Plans.of("b100,1,0,7;");
        for (int limit : new int[] {LEAST, -1, 0, 100000, MOST}) {
            DUE.illegalArgument("limit " + limit, () -> dock.setLimit(0, limit));
        }
        DUE.is("the limit stays", dock.block(0, 3), 7);
        DUE.is("1", dock.setLimit(0, 1), 7);
        DUE.is("99999", dock.setLimit(0, 99999), 1);
    }

    private static void ship() {
        DUE.sentence("Promise 5", "Returns the previous weight.");
        KeelBlocks dock = new KeelBlocks();
        DUE.is("the initial one", dock.setShip(1, 0), 1000);
        DUE.is("the least one", dock.setShip(100000, 400), 1);
        DUE.is("the greatest one", dock.setShip(100000, 400), 100000);
        DUE.is("the same one is set and saved", dock.undo(), 2);
    }

    private static void shipOutOfRange() {
        DUE.sentence("Promise 5", "Throws `IllegalArgumentException` if weight or center is out of range");
        KeelBlocks dock = new KeelBlocks();
        for (int weight : new int[] {LEAST, -1, 0, 100001, MOST}) {
            DUE.illegalArgument("weight " + weight, () -> dock.setShip(weight, 100));
        }
        for (int center : new int[] {LEAST, -1, 401, MOST}) {
            DUE.illegalArgument("center " + center, () -> dock.setShip(100, center));
        }
        DUE.is("the weight stays", dock.value(0), 1000);
        DUE.is("the center stays", dock.value(1), 200);
    }

    private static void pulledIfItStands() {
        DUE.sentence("Promise 6", "Pulls a block out, if the ship stands without it, and no block is overloaded then");
        KeelBlocks dock = Plans.of("b100,1,0,999;b200,1,0,999;b300,1,0,500;");
        DUE.is("the others are loaded up to the limit", dock.pull(1), 500);
        DUE.is("states", Plans.about(dock, 4), "0 1 0");
        DUE.is("it is undone", dock.undo(), 1);
        dock.setLimit(2, 499);
        DUE.illegalState("above the limit", () -> dock.pull(1));
        DUE.is("it stands still", Plans.about(dock, 4), "0 0 0");
        KeelBlocks far = Plans.of("b100,1,0,999;b199,1,0,999;b300,1,0,999;");
        DUE.illegalState("the center would be beside the others", () -> far.pull(2));
        KeelBlocks right = Plans.of("b100,1,0,999;b200,1,0,999;b300,1,0,999;");
        DUE.illegalState("the center would be right above one", () -> right.pull(2));
        KeelBlocks within = Plans.of("b100,1,0,999;b201,1,0,999;b300,1,0,999;");
        DUE.is("the center would be between the others", within.pull(2), 990);
    }

    private static void pulledWhateverItIsNow() {
        DUE.sentence("Promise 6", "(how it is now does not matter)");
        KeelBlocks overloaded = Plans.of("b100,1,0,999;b200,1,0,1;b300,1,0,999;");
        DUE.is("it is overloaded now", overloaded.block(1, 7), 1);
        DUE.is("it is pulled", overloaded.pull(1), 500);
        KeelBlocks rocking = Plans.of("b100,10,0,999;b200,10,50,999;b300,10,0,999;s500,200;");
        DUE.is("the ship does not stand now", rocking.value(6), 0);
        DUE.is("it is pulled, too", rocking.pull(1), 250);
        KeelBlocks idle = Plans.of("b100,1,0,999;b200,1,-50,1;b300,1,0,999;s90,200;");
        DUE.is("it does not bear now", idle.block(1, 6), 0);
        DUE.is("it is pulled as well", idle.pull(1), 45);
    }

    private static void pulledGreatestLoad() {
        DUE.sentence("Promise 6", "Returns the greatest load of all blocks then.");
        KeelBlocks first = Plans.of("b100,1,0,999;b200,1,0,999;b300,1,0,999;s1000,180;");
        DUE.is("of the first block", first.pull(1), 600);
        KeelBlocks last = Plans.of("b100,1,0,999;b200,1,0,999;b300,1,0,999;s1000,220;");
        DUE.is("of the last block", last.pull(1), 600);
        DUE.is("it is the greatest load of the dock", last.value(8), 600);
        KeelBlocks less = Plans.of("b100,1,0,999;b200,98,0,999;b300,1,0,999;");
        DUE.is("with the block", less.value(8), 980);
        DUE.is("without it", less.pull(1), 500);
    }

    private static void pulledNoBlock() {
        DUE.sentence("Promise 6", NO_BLOCK);
        KeelBlocks dock = Plans.five(999, 999, 999);
        for (int block : new int[] {LEAST, -1, 5, 16, 32, MOST}) {
            DUE.outOfBounds("block " + block, () -> dock.pull(block));
        }
        DUE.is("the last block", Plans.five(999, 999, 999).pull(4) > 0, true);
        DUE.outOfBounds("none at all", () -> new KeelBlocks().pull(0));
        DUE.outOfBounds("block 16 of 16", () -> Plans.full().pull(16));
    }

    private static void pulledIllegally() {
        DUE.sentence("Promise 6", "Throws `IllegalStateException` if the block does not stand, "
                + "the ship would not stand without it, or a block would be overloaded");
        KeelBlocks dock = Plans.five(999, 999, 999);
        dock.pull(1);
        DUE.illegalState("it is out", () -> dock.pull(1));
        dock.setLimit(2, 1);
        dock.cascade();
        DUE.illegalState("it is crushed", () -> dock.pull(2));
        DUE.is("states", Plans.about(dock, 4), "0 1 2 0 0");
        DUE.illegalState("the ship would not stand on 3 and 4", () -> dock.pull(0));
        dock.setLimit(0, 600);
        // without 3 the loads of 0 and 4 are 500
        dock.setLimit(4, 499);
        DUE.illegalState("4 would be overloaded", () -> dock.pull(3));
        dock.setLimit(4, 500);
        DUE.is("4 would not", dock.pull(3), 500);
        DUE.illegalState("no two blocks would be left", () -> dock.pull(4));
        KeelBlocks one = Plans.of("b200,1,0,999;");
        DUE.illegalState("no block would be left", () -> one.pull(0));
    }

    private static void putBack() {
        DUE.sentence("Promise 7", "Puts a block that is pulled out or crushed back, so that it stands again, "
                + "with its cap. Undoable.");
        KeelBlocks dock = Plans.of("b100,1,0,999;b200,1,9,300;b300,1,0,999;");
        dock.pull(1);
        DUE.is("one that is out", dock.put(1), 339);
        DUE.is("crushed", dock.cascade(), 1);
        DUE.is("one that is crushed", dock.put(1), 339);
        DUE.is("states", Plans.about(dock, 4), "0 0 0");
        DUE.is("caps", Plans.about(dock, 2), "0 9 0");
        DUE.is("it is undone", dock.undo(), 3);
        DUE.is("crushed again", Plans.about(dock, 4), "0 2 0");
        KeelBlocks shaved = Plans.of("b0,10,0,999;b100,10,0,999;b200,10,0,180;b300,10,0,999;b400,10,0,999;");
        shaved.shave();
        shaved.pull(2);
        shaved.put(2);
        DUE.is("with the cap to which it was shaved", shaved.block(2, 2), -3);
        DUE.is("and with its steps", shaved.block(2, 8), 3);
    }

    private static void putBackLoad() {
        DUE.sentence("Promise 7", "Returns its load then (0 if it does not bear; it may be overloaded)");
        KeelBlocks dock = Plans.of("b100,1,0,999;b200,1,0,999;b300,1,0,999;");
        dock.pull(1);
        dock.setLimit(1, 1);
        DUE.is("it is overloaded", dock.put(1), 333);
        DUE.is("it is back all the same", Plans.about(dock, 7), "0 1 0");
        dock.pull(1);
        dock.setCap(1, -50);
        dock.setShip(90, 200);
        DUE.is("it does not bear", dock.put(1), 0);
        DUE.is("the ship stands", dock.value(6), 1);
    }

    private static void putBackWithoutAShip() {
        DUE.sentence("Promise 7", "NONE if the ship does not stand.");
        KeelBlocks dock = Plans.five(1, 1, 1);
        dock.cascade();
        DUE.is("one block", dock.put(2), -1);
        DUE.is("it stands", dock.block(2, 4), 0);
        DUE.is("two, between which the center is not", dock.put(3), -1);
        DUE.is("two, between which it is", dock.put(1), 334);
    }

    private static void putNoBlock() {
        DUE.sentence("Promise 7", NO_BLOCK);
        KeelBlocks dock = Plans.five(1, 1, 1);
        dock.cascade();
        for (int block : new int[] {LEAST, -1, 5, 16, 32, MOST}) {
            DUE.outOfBounds("block " + block, () -> dock.put(block));
        }
        DUE.is("none is back", dock.value(3), 0);
        dock.put(4);
        DUE.is("the last one is back", dock.block(4, 4), 0);
        DUE.outOfBounds("none at all", () -> new KeelBlocks().put(0));
    }

    private static void putIllegally() {
        DUE.sentence("Promise 7", "Throws `IllegalStateException` if it stands");
        KeelBlocks dock = Plans.of("b100,1,0,999;b200,1,-50,999;b300,1,0,999;s90,200;");
        DUE.illegalState("it bears", () -> dock.put(0));
        DUE.illegalState("it stands and does not bear", () -> dock.put(1));
        dock.pull(1);
        dock.put(1);
        DUE.illegalState("it is back already", () -> dock.put(1));
        dock.setShip(90, 400);
        DUE.illegalState("it stands though the ship does not", () -> dock.put(0));
    }

    private static void aboutBlocks() {
        DUE.sentence("Promise 10", "`what`: 0 its place, 1 its stiffness, 2 its cap, 3 its limit, "
                + "4 0 if it stands, 1 if it is pulled out, 2 if it is crushed");
        KeelBlocks dock = Plans.of("b100,2,3,999;b300,4,-5,998;b200,6,7,996;b250,8,-9,997;");
        dock.pull(3);
        dock.setLimit(2, 1);
        dock.cascade();
        DUE.is("places", Plans.about(dock, 0), "100 300 200 250");
        DUE.is("stiffnesses", Plans.about(dock, 1), "2 4 6 8");
        DUE.is("caps", Plans.about(dock, 2), "3 -5 7 -9");
        DUE.is("limits", Plans.about(dock, 3), "999 998 1 997");
        DUE.is("states", Plans.about(dock, 4), "0 0 2 1");
    }

    private static void loadOfNoShip() {
        DUE.sentence("Promise 10", "5 its load (0 if the ship does not stand), 6 1 if it bears, otherwise 0, "
                + "7 1 if it is overloaded, otherwise 0");
        KeelBlocks dock = Plans.of("b100,1,0,300;b200,1,0,334;b300,1,0,332;b200,1,-50,1;s999,200;");
        dock.setShip(99, 200);
        dock.setLimit(0, 32);
        DUE.is("loads", Plans.loads(dock), "33 33 33 0");
        DUE.is("bear", Plans.about(dock, 6), "1 1 1 0");
        DUE.is("overloaded", Plans.about(dock, 7), "1 0 0 0");
        dock.setShip(99, 300);
        DUE.is("loads of no ship", Plans.loads(dock), "0 0 0 0");
        DUE.is("bear no ship", Plans.about(dock, 6), "0 0 0 0");
        DUE.is("overloaded by no ship", Plans.about(dock, 7), "0 0 0 0");
    }

    private static void shavedSoFar() {
        DUE.sentence("Promise 10", "8 the steps by which shave() has shaved it so far (nothing else changes them)");
        KeelBlocks dock = Plans.of("b0,10,0,999;b100,10,0,999;b200,10,0,180;b300,10,0,999;b400,10,0,999;");
        DUE.is("none at first", Plans.about(dock, 8), "0 0 0 0 0");
        dock.shavingSteps();
        DUE.is("none by a question", dock.block(2, 8), 0);
        dock.shave();
        DUE.is("three", Plans.about(dock, 8), "0 0 3 0 0");
        dock.setLimit(2, 170);
        dock.shave();
        DUE.is("one more", dock.block(2, 8), 4);
        dock.setCap(2, 50);
        DUE.is("not by a higher cap", dock.block(2, 8), 4);
        dock.setCap(2, -50);
        DUE.is("not by a lower cap", dock.block(2, 8), 4);
        dock.setLimit(2, 99999);
        dock.setShip(500, 200);
        dock.pull(2);
        dock.put(2);
        dock.addBlock(50, 1, 0, 1);
        DUE.is("not by what else is done", dock.block(2, 8), 4);
        dock.cascade();
        DUE.is("not by a cascade", Plans.about(dock, 8), "0 0 4 0 0 0");
    }

    private static void aboutNoBlock() {
        DUE.sentence("Promise 10", NO_BLOCK);
        KeelBlocks dock = Plans.of("b100,1,0,999;b300,1,0,998;");
        for (int what = 0; what <= 8; what++) {
            int asked = what;
            for (int block : new int[] {LEAST, -1, 2, 16, MOST}) {
                DUE.outOfBounds("block " + block, () -> dock.block(block, asked));
            }
        }
        DUE.is("the last block", dock.block(1, 3), 998);
        DUE.outOfBounds("none at all", () -> new KeelBlocks().block(0, 0));
        DUE.is("block 15", Plans.full().block(15, 0), 375);
        DUE.outOfBounds("block 16 of 16", () -> Plans.full().block(16, 0));
    }

    private static void aboutOutOfRange() {
        DUE.sentence("Promise 10", NO_WHAT);
        KeelBlocks dock = Plans.of("b100,1,0,999;b300,1,0,998;");
        for (int what : new int[] {LEAST, -1, 9, MOST}) {
            DUE.illegalArgument("what " + what, () -> dock.block(1, what));
        }
        DUE.is("what 0", dock.block(1, 0), 300);
        DUE.is("what 8", dock.block(1, 8), 0);
    }

    private static void values() {
        DUE.sentence("Promise 11", "`what`: 0 the weight, 1 the center of gravity, 2 the blocks, 3 those that stand, "
                + "4 those that bear, 5 those that are overloaded, 6 1 if the ship stands, otherwise 0");
        KeelBlocks dock = Plans.of("b0,1,0,249;b100,1,0,251;b200,1,-50,9;b300,1,0,9;b400,1,0,999;b400,1,0,9;s1,200;");
        DUE.is("six blocks stand", dock.value(3), 6);
        dock.pull(5);
        dock.setShip(100, 200);
        DUE.is("weight", dock.value(0), 100);
        DUE.is("center", dock.value(1), 200);
        DUE.is("blocks", dock.value(2), 6);
        DUE.is("those that stand", dock.value(3), 5);
        DUE.is("those that bear", dock.value(4), 4);
        DUE.is("those that are overloaded", dock.value(5), 1);
        DUE.is("it stands", dock.value(6), 1);
        KeelBlocks none = new KeelBlocks();
        DUE.is("nothing", none.value(2) + none.value(3) + none.value(4) + none.value(5) + none.value(6), 0);
        KeelBlocks full = Plans.full();
        DUE.is("sixteen stand and bear", full.value(2) + full.value(3) + full.value(4), 48);
    }

    private static void roundsThatWereMade() {
        DUE.sentence("Promise 11",
                "7 the rounds that were made (the one in which D is 0 or the set is empty included)");
        DUE.is("the empty one", new KeelBlocks().value(7), 1);
        DUE.is("the one with D 0", Plans.of("b200,1,0,9;b200,1,0,9;").value(7), 1);
        DUE.is("the second with D 0", Plans.of("b100,1,0,9;b200,1,0,9;").value(7), 2);
        DUE.is("the first and last", Plans.of("b100,1,0,9;b300,1,0,9;").value(7), 1);
        DUE.is("the second", Plans.of("b100,1,0,9;b300,1,0,9;b200,1,-50,9;s9,200;").value(7), 2);
    }

    private static void greatestLoad() {
        DUE.sentence("Promise 11", "8 the greatest load (0 if the ship does not stand)");
        KeelBlocks dock = Plans.of("b100,1,0,9;b300,1,0,9;s1000,150;");
        DUE.is("of the first block", dock.value(8), 750);
        dock.setShip(1000, 250);
        DUE.is("of the last block", dock.value(8), 750);
        dock.setShip(1, 200);
        DUE.is("the least that there is", dock.value(8), 1);
        dock.setShip(1000, 300);
        DUE.is("of no ship", dock.value(8), 0);
        DUE.is("of no block", new KeelBlocks().value(8), 0);
    }

    private static void blockWithIt() {
        DUE.sentence("Promise 11", "9 the block with it, of several the lowest one (NONE if the ship does not stand)");
        KeelBlocks dock = Plans.of("b300,1,0,9;b100,1,0,9;s1000,150;");
        DUE.is("the last block", dock.value(9), 1);
        dock.setShip(1000, 250);
        DUE.is("the first block", dock.value(9), 0);
        dock.setShip(1000, 200);
        DUE.is("of two the lowest number", dock.value(9), 0);
        dock.setShip(1000, 400);
        DUE.is("no ship", dock.value(9), -1);
        DUE.is("no block", new KeelBlocks().value(9), -1);
        DUE.is("of the last two", Plans.of("b200,1,0,9;b300,2,0,9;b100,2,0,9;").value(9), 1);
        KeelBlocks full = new KeelBlocks();
        for (int i = 0; i < 16; i++) {
            full.addBlock(i % 2 == 0 ? 100 : 300, i == 15 || i == 14 ? 100 : 1, 0, 9);
        }
        full.setShip(1000, 201);
        DUE.is("block 15", full.value(9), 15);
    }

    private static void valuesOutOfRange() {
        DUE.sentence("Promise 11", NO_WHAT);
        KeelBlocks dock = Plans.of("b100,1,0,9;b300,1,0,9;");
        for (int what : new int[] {LEAST, -1, 10, MOST}) {
            DUE.illegalArgument("what " + what, () -> dock.value(what));
            DUE.illegalArgument("what " + what + " of a new dock", () -> new KeelBlocks().value(what));
        }
        DUE.is("what 0", dock.value(0), 1000);
        DUE.is("what 9", dock.value(9), 0);
    }

    private static void balanceIsNotReduced() {
        DUE.sentence("Promise 12", "Returns a number of the balance as a fraction that is not reduced");
        KeelBlocks dock = Plans.of("b100,1,0,9;b300,1,0,9;s1000,150;");
        // S0 = 2, S1 = 400, S2 = 100000, F = 1000, M = 150000
        DUE.is("a * D", dock.balance(0), 1000L * 100000 - 150000L * 400);
        DUE.is("b * D", dock.balance(1), 150000L * 2 - 1000L * 400);
        DUE.is("D", dock.balance(2), 40000);
        KeelBlocks great = new KeelBlocks();
        for (int i = 0; i < 16; i++) {
            great.addBlock(i % 2 == 0 ? 0 : 400, 100, -50, 99999);
        }
        great.setShip(100000, 200);
        // S0 = 1600, S1 = 320000, S2 = 128000000, F = 180000, M = 36000000
        DUE.is("the greatest a * D", great.balance(0), 11520000000000L);
        DUE.is("the greatest D", great.balance(2), 102400000000L);
    }

    private static void balanceOfTheLastRound() {
        DUE.sentence("Promise 12", "of the last round.");
        KeelBlocks dock = Plans.of("b100,1,0,9;b300,1,0,9;b200,1,-50,9;s10,200;");
        DUE.is("round 2", dock.value(7), 2);
        DUE.is("a * D", dock.balance(0), 10L * 100000 - 2000L * 400);
        DUE.is("D of the two that bear", dock.balance(2), 40000);
    }

    private static void balanceOfNoShip() {
        DUE.sentence("Promise 12", "Returns that number; 0 if the ship does not stand.");
        // the rounds of these end with D 0 in round 1 and 2, and behind round 30 with a D that is not 0
        KeelBlocks[] docks = {new KeelBlocks(), Plans.of("b200,1,5,9;"), Plans.of("b100,1,0,9;b200,1,5,9;"),
            Plans.of("b200,5,0,100;b200,5,0,100;b201,1,50,99999;b0,1,-50,99999;b400,1,-50,99999;s1,200;")};
        for (KeelBlocks dock : docks) {
            for (int what = 0; what <= 2; what++) {
                DUE.is("balance(" + what + ")", dock.balance(what), 0);
            }
        }
    }

    private static void balanceOutOfRange() {
        DUE.sentence("Promise 12", NO_WHAT);
        KeelBlocks dock = Plans.of("b100,1,0,9;b300,1,0,9;");
        for (int what : new int[] {LEAST, -1, 3, MOST}) {
            DUE.illegalArgument("what " + what, () -> dock.balance(what));
            DUE.illegalArgument("what " + what + " of no ship", () -> new KeelBlocks().balance(what));
        }
        DUE.is("what 2", dock.balance(2), 40000);
    }

    private static void tiltOfNoShip() {
        DUE.sentence("Promise 13", "0.0 if the ship does not stand.");
        DUE.isDouble("no block", new KeelBlocks().tilt(), 0.0);
        DUE.isDouble("D is 0", Plans.of("b200,1,0,9;b200,1,0,9;").tilt(), 0.0);
        DUE.isDouble("D is 0 in round 2", Plans.of("b100,1,0,9;b200,1,5,9;").tilt(), 0.0);
        DUE.isDouble("round 30", Plans.of(
                "b200,5,0,100;b200,5,0,100;b201,1,50,99999;b0,1,-50,99999;b400,1,-50,99999;s1,200;").tilt(), 0.0);
    }

    private static void tilt() {
        DUE.sentence("Promise 13", "Returns (b * D), converted to double, divided by D, converted to double");
        DUE.isDouble("level", Plans.of("b100,1,0,9;b300,1,0,9;").tilt(), 0.0);
        DUE.isDouble("to the right", Plans.of("b100,1,0,9;b300,1,0,9;s1000,201;").tilt(), 2000.0 / 40000.0);
        DUE.isDouble("to the left", Plans.of("b100,1,0,9;b300,1,0,9;s1000,199;").tilt(), -2000.0 / 40000.0);
        DUE.isDouble("a fifth of a thousandth", Plans.of("b100,1,0,9;b400,1,0,9;s9,251;").tilt(), 18.0 / 90000.0);
    }

    private DockBoundsTest() {
    }
}
