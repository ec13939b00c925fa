import java.math.BigInteger;

/** The boundaries of exceptions, undo and digest: "Terms" and promises 25 and 26; one method for each sentence. */
final class StateBoundsTest {
    private static final Due DUE = new Due("StateBoundsTest");
    private static final long START = 3433;

    public static void main(String[] args) {
        DUE.each(StateBoundsTest.class);
        DUE.end();
    }

    /** A dock of five blocks, of which 2 is out, with the text of two blocks and two saved states. */
    private static KeelBlocks five() {
        KeelBlocks dock = Plans.five(500, 500, 500);
        dock.pull(2);
        Plans.enter(dock, "b100,1,0,9;b300,1,0,9;");
        return dock;
    }

    private static void savedEvenIfNothingChanges() {
        DUE.sentence("Terms", "Each successful call of a method whose description says \"undoable\" "
                + "saves the state from before the call, even if the call changes nothing");
        KeelBlocks[] docks = new KeelBlocks[13];
        for (int i = 0; i < docks.length; i++) {
            docks[i] = five();
        }
        docks[12].undo();
        docks[12].undo();
        docks[12].parse();
        Due.Call[] calls = {() -> docks[0].addBlock(1, 1, 1, 1), () -> docks[1].setCap(0, 1),
            () -> docks[2].setCap(0, 0), () -> docks[3].setLimit(0, 1), () -> docks[4].setLimit(0, 500),
            () -> docks[5].setShip(1, 1), () -> docks[6].setShip(1000, 200), () -> docks[7].pull(1),
            () -> docks[8].put(2), () -> docks[9].cascade(), () -> docks[10].shave(), () -> docks[11].parse(),
            () -> docks[12].parse()};
        for (int i = 0; i < calls.length; i++) {
            String before = Plans.state(docks[i]);
            DUE.is("call " + i + " is refused", Due.outcome(calls[i]).startsWith("throws"), false);
            DUE.is("call " + i + " is undone", docks[i].undo(), i == 12 ? 1 : 2);
            DUE.is("the state from before call " + i, Plans.state(docks[i]), before);
        }
    }

    private static void savedByUndoableCallsAlone() {
        DUE.sentence("Terms", "Each successful call of a method whose description says \"undoable\"");
        KeelBlocks dock = new KeelBlocks();
        dock.append('s');
        dock.clearText();
        dock.append('x');
        dock.parse();
        dock.value(0);
        dock.balance(0);
        dock.tilt();
        dock.pullable();
        dock.cascadeSteps();
        dock.survives();
        dock.shavingSteps();
        dock.greatestWeight();
        dock.bestCenter();
        dock.bestPlace(1);
        dock.digest();
        DUE.illegalState("no other call saves", () -> dock.undo());
        dock.setShip(1, 1);
        dock.undo();
        DUE.illegalState("undo does not save", () -> dock.undo());
    }

    private static void fourStates() {
        DUE.sentence("Terms", "at most 4 states are saved");
        KeelBlocks dock = new KeelBlocks();
        for (int i = 1; i <= 4; i++) {
            dock.setShip(i, i);
        }
        DUE.is("four, three remain", dock.undo(), 3);
        dock.setShip(4, 4);
        dock.setShip(5, 5);
        DUE.is("a fifth, three remain", dock.undo(), 3);
        for (int i = 0; i < 100; i++) {
            dock.setShip(6, 6);
        }
        DUE.is("many, three remain", dock.undo(), 3);
    }

    private static void oldestIsDropped() {
        DUE.sentence("Terms", "and the oldest is dropped first.");
        for (int calls = 4; calls <= 13; calls++) {
            KeelBlocks dock = new KeelBlocks();
            for (int i = 1; i <= calls; i++) {
                dock.setShip(i, i);
            }
            for (int i = 1; i <= 4; i++) {
                DUE.is("states that remain of " + calls, dock.undo(), 4 - i);
                DUE.is("weight", dock.value(0), calls == i ? 1000 : calls - i);
            }
            DUE.illegalState("the older ones", () -> dock.undo());
        }
    }

    private static void everythingButTheText() {
        DUE.sentence("Terms", "The saved state contains everything except the dock text.");
        KeelBlocks dock = Plans.of("b0,10,0,999;b100,10,0,999;b200,10,0,180;b300,10,0,999;b400,10,0,999;");
        dock.shave();
        dock.setLimit(2, 999);
        dock.pull(1);
        Plans.enter(dock, "s900,210;b7,7,7,7;");
        dock.parse();
        DUE.is("states that remain", dock.undo(), 3);
        DUE.is("ship, blocks and balance", withoutDigest(dock), "1000 200 5 4 4 0 1 1 324 0 "
                + "| 0 10 0 999 0 324 1 0 0 | 100 10 0 999 1 0 0 0 0 | 200 10 -3 999 0 235 1 0 3 "
                + "| 300 10 0 999 0 235 1 0 0 | 400 10 0 999 0 206 1 0 0 ");
        DUE.is("the text", dock.clearText(), 18);
        dock.append('x');
        dock.undo();
        DUE.is("the text is not taken back", dock.clearText(), 1);
        KeelBlocks crushed = Plans.of("b100,1,0,1;b300,1,0,999;b250,1,0,999;s900,210;");
        crushed.cascade();
        crushed.setShip(1, 1);
        crushed.put(0);
        crushed.undo();
        DUE.is("a crushed one", Plans.about(crushed, 4), "2 0 0");
        crushed.undo();
        DUE.is("weight", crushed.value(0), 900);
        DUE.is("center", crushed.value(1), 210);
    }

    /** All about a dock but its text and the number of its saved states. */
    private static String withoutDigest(KeelBlocks dock) {
        String state = Plans.state(dock);
        return state.substring(0, state.indexOf('#'));
    }

    private static void refusedCallsChangeNothing() {
        DUE.sentence("Terms", "A call that throws an exception changes nothing.");
        KeelBlocks dock = five();
        Due.Call[] refused = {() -> dock.addBlock(401, 1, 0, 1), () -> dock.addBlock(1, 1, 0, 0),
            () -> dock.setCap(5, 1), () -> dock.setCap(0, 51), () -> dock.setLimit(5, 1), () -> dock.setLimit(0, 0),
            () -> dock.setShip(0, 100), () -> dock.setShip(100, 401), () -> dock.pull(5), () -> dock.pull(2),
            () -> dock.pull(0), () -> dock.put(5), () -> dock.put(0), () -> dock.block(5, 0), () -> dock.block(0, 9),
            () -> dock.value(10), () -> dock.balance(3), () -> dock.loadWithout(0, 5), () -> dock.loadWithout(5, 0),
            () -> dock.bestPlace(0), () -> dock.append(128)};
        String before = Plans.state(dock);
        dock.setLimit(0, 499);
        dock.undo();
        for (int i = 0; i < refused.length; i++) {
            DUE.is("call " + i + " is refused", Due.outcome(refused[i]).startsWith("throws"), true);
        }
        DUE.is("nothing has changed", Plans.state(dock), before);
        DUE.is("the last saved state, too", dock.undo(), 1);
        DUE.is("as it was", Plans.about(dock, 4), "0 0 0 0 0");
        DUE.is("and the one before", dock.undo(), 0);
        DUE.is("as it was, too", dock.value(2), 0);
        DUE.illegalState("undo of nothing", () -> dock.undo());
        DUE.is("the text", dock.clearText(), 22);
        KeelBlocks full = Plans.full();
        String sixteen = Plans.state(full);
        DUE.illegalState("a 17th block", () -> full.addBlock(1, 1, 1, 1));
        DUE.is("nothing has changed for sixteen", Plans.state(full), sixteen);
    }

    private static void firstListedException() {
        DUE.sentence("Terms", "If several exceptions apply, the one that is listed first is thrown.");
        KeelBlocks dock = Plans.of("b100,1,0,9;");
        DUE.illegalArgument("addBlock to sixteen", () -> Plans.full().addBlock(0, 1, 0, 0));
        DUE.outOfBounds("setCap", () -> dock.setCap(1, 51));
        DUE.outOfBounds("setLimit", () -> dock.setLimit(1, 0));
        DUE.outOfBounds("block", () -> dock.block(1, 9));
        DUE.outOfBounds("block of a new dock", () -> new KeelBlocks().block(0, -1));
        for (int i = 0; i < 160; i++) {
            dock.append('x');
        }
        DUE.illegalArgument("append", () -> dock.append(128));
    }

    private static void mostRecentlySaved() {
        DUE.sentence("Promise 25", "Restores the most recently saved state and removes it from the saved states.");
        KeelBlocks dock = new KeelBlocks();
        dock.setShip(1, 1);
        dock.setShip(2, 2);
        dock.undo();
        DUE.is("the last but one", dock.value(0), 1);
        dock.setShip(3, 3);
        dock.undo();
        DUE.is("the same one again", dock.value(0), 1);
        dock.undo();
        DUE.is("the one before", dock.value(0), 1000);
        // the same at each place of a ring of four
        for (int first = 1; first <= 9; first++) {
            KeelBlocks ring = new KeelBlocks();
            for (int i = 1; i <= first; i++) {
                ring.setShip(i, i);
            }
            ring.undo();
            ring.setShip(100, 100);
            ring.setShip(101, 101);
            ring.undo();
            DUE.is("the last but one behind " + first, ring.value(0), 100);
            ring.undo();
            DUE.is("the one from before both behind " + first, ring.value(0), first == 1 ? 1000 : first - 1);
        }
    }

    private static void statesThatRemain() {
        DUE.sentence("Promise 25", "Returns the number of saved states that remain.");
        KeelBlocks dock = new KeelBlocks();
        for (int i = 1; i <= 9; i++) {
            dock.cascade();
        }
        DUE.is("3", dock.undo(), 3);
        DUE.is("2", dock.undo(), 2);
        DUE.is("1", dock.undo(), 1);
        DUE.is("0", dock.undo(), 0);
    }

    private static void noSavedState() {
        DUE.sentence("Promise 25", "Throws `IllegalStateException` if there is no saved state");
        KeelBlocks dock = new KeelBlocks();
        DUE.illegalState("a new dock", () -> dock.undo());
        dock.shave();
        dock.undo();
        DUE.illegalState("all are undone", () -> dock.undo());
        DUE.illegalState("once more", () -> dock.undo());
        dock.shave();
        DUE.is("one is saved", dock.undo(), 0);
    }

    private static long hash(long... values) {
        long h = START;
        for (long v : values) {
            h = 31 * h + v;
        }
        return h;
    }

    private static void digestOfANewDock() {
        DUE.sentence("Promise 26", "Start with h = 3433");
        DUE.is("a new dock", new KeelBlocks().digest(), hash(0, 1000, 200, 0, 0, 0, 0, 0, 1, 0, -1, 0, 0, 0, 0));
    }

    private static void digestOfValues() {
        DUE.sentence("Promise 26", "the length of the text; value() for 0 to 9; balance() for 0 to 2");
        KeelBlocks dock = new KeelBlocks();
        Plans.enter(dock, "s1,1;".repeat(32));
        DUE.is("a full text", dock.digest(), hash(160, 1000, 200, 0, 0, 0, 0, 0, 1, 0, -1, 0, 0, 0, 0));
        dock.clearText();
        dock.addBlock(100, 1, 0, 251);
        dock.addBlock(300, 1, 0, 749);
        dock.setShip(1000, 250);
        DUE.is("with a ship that stands", dock.digest(), hash(0, 1000, 250, 2, 2, 2, 1, 1, 1, 750, 1,
                1000L * 100000 - 250000L * 400, 250000L * 2 - 1000L * 400, 40000,
                100, 1, 0, 251, 0, 250, 1, 0, 0, 300, 1, 0, 749, 0, 750, 1, 1, 0, 3));
        dock.setShip(1000, 300);
        DUE.is("with one that does not", dock.digest(), hash(0, 1000, 300, 2, 2, 0, 0, 0, 2, 0, -1, 0, 0, 0,
                100, 1, 0, 251, 0, 0, 0, 0, 0, 300, 1, 0, 749, 0, 0, 0, 0, 0, 4));
    }

    private static void digestOfBlocks() {
        DUE.sentence("Promise 26", "for each block the values of block() for what = 0 to 8");
        KeelBlocks dock = new KeelBlocks();
        dock.setShip(50, 200);
        dock.addBlock(100, 1, -48, 24);
        dock.addBlock(300, 1, 0, 26);
        dock.addBlock(200, 1, -50, 9);
        dock.addBlock(200, 2, -50, 9);
        dock.shave();
        dock.setLimit(0, 25);
        dock.pull(3);
        dock.setLimit(0, 24);
        // the sets are 0 1 2 and 0 1, with which S0 = 2, S1 = 400, S2 = 100000, F = 100, M = 15000
        DUE.is("shaved, overloaded, idle and out", dock.digest(), hash(0, 50, 200, 4, 3, 2, 1, 1, 2, 25, 0,
                4000000, -10000, 40000,
                100, 1, -50, 24, 0, 25, 1, 1, 2, 300, 1, 0, 26, 0, 25, 1, 0, 0,
                200, 1, -50, 9, 0, 0, 0, 0, 0, 200, 2, -50, 9, 1, 0, 0, 0, 0, 4));
        dock.cascade();
        DUE.is("crushed", dock.digest(), hash(0, 50, 200, 4, 2, 0, 0, 0, 2, 0, -1, 0, 0, 0,
                100, 1, -50, 24, 2, 0, 0, 0, 2, 300, 1, 0, 26, 0, 0, 0, 0, 0,
                200, 1, -50, 9, 0, 0, 0, 0, 0, 200, 2, -50, 9, 1, 0, 0, 0, 0, 4));
    }

    private static void digestOfSavedStates() {
        DUE.sentence("Promise 26", "the number of saved states.");
        KeelBlocks dock = new KeelBlocks();
        long none = dock.digest();
        for (int saved = 1; saved <= 6; saved++) {
            dock.setShip(1000, 200);
            DUE.is("digest behind " + saved, dock.digest(), none + Math.min(saved, 4));
        }
        dock.undo();
        DUE.is("digest behind an undo", dock.digest(), none + 3);
    }

    private static void digestOverflows() {
        DUE.sentence("Promise 26", "Returns the hash, with the overflow of long arithmetic ignored.");
        KeelBlocks dock = Plans.full();
        DUE.is("it overflows", hash(dock).bitLength() > 64, true);
        DUE.is("the last 64 bits", dock.digest(), hash(dock).longValue());
        int belowNothing = 0;
        for (int stiffness = 1; stiffness <= 20; stiffness++) {
            KeelBlocks other = Plans.of("b100," + stiffness + ",0,9;b300,1,0,9;");
            DUE.is("the last 64 bits with " + stiffness, other.digest(), hash(other).longValue());
            belowNothing += other.digest() < 0 ? 1 : 0;
        }
        DUE.is("some are below 0, and some are not", belowNothing > 0 && belowNothing < 20, true);
    }

    /** The hash of a dock without a text, from which nothing is cut off. */
    private static BigInteger hash(KeelBlocks dock) {
        BigInteger hash = next(BigInteger.valueOf(START), 0);
        for (int what = 0; what <= 9; what++) {
            hash = next(hash, dock.value(what));
        }
        for (int what = 0; what <= 2; what++) {
            hash = next(hash, dock.balance(what));
        }
        for (int block = 0; block < dock.value(2); block++) {
            for (int what = 0; what <= 8; what++) {
                hash = next(hash, dock.block(block, what));
            }
        }
        return next(hash, Math.min(4, Math.max(1, dock.value(2) - 1)));
    }

    private static BigInteger next(BigInteger hash, long value) {
        return hash.multiply(BigInteger.valueOf(31)).add(BigInteger.valueOf(value));
    }

    private StateBoundsTest() {
    }
}
