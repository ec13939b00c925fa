/** Promises 25 and 26: undo and digest. */
final class StateTest {
    private static final Due DUE = new Due("StateTest");

    public static void main(String[] args) {
        promise25();
        promise25AndAllThatIsSaved();
        promise25AndTheText();
        promise26();
        DUE.end();
    }

    private static void promise25() {
        KeelBlocks dock = new KeelBlocks();
        DUE.illegalState("nothing is saved", () -> dock.undo());
        for (int i = 1; i <= 7; i++) {
            dock.setShip(i, i);
        }
        DUE.is("three remain", dock.undo(), 3);
        DUE.is("the last but one", dock.value(0), 6);
        DUE.is("two remain", dock.undo(), 2);
        DUE.is("weight", dock.value(0), 5);
        dock.setShip(50, 50);
        DUE.is("two remain again", dock.undo(), 2);
        DUE.is("weight again", dock.value(0), 5);
        DUE.is("one remains", dock.undo(), 1);
        DUE.is("none remains", dock.undo(), 0);
        DUE.is("the oldest of four", dock.value(0), 3);
        DUE.is("its center", dock.value(1), 3);
        DUE.illegalState("the older ones were dropped", () -> dock.undo());
        DUE.is("nothing changed", dock.value(0), 3);
    }

    /** Each undoable call saves one state, even if it changes nothing; a call that throws saves none. */
    private static void promise25AndAllThatIsSaved() {
        KeelBlocks dock = Plans.five(500, 249, 199);
        DUE.is("parse", dock.undo(), 0);
        DUE.is("no blocks", dock.value(2), 0);
        KeelBlocks[] docks = new KeelBlocks[9];
        Due.Call[] calls = {() -> docks[0].addBlock(1, 1, 1, 1), () -> docks[1].setCap(0, 0),
            () -> docks[2].setLimit(0, 500), () -> docks[3].setShip(1000, 200), () -> docks[4].pull(1),
            () -> docks[5].put(2), () -> docks[6].cascade(), () -> docks[7].shave(), () -> docks[8].parse()};
        for (int i = 0; i < calls.length; i++) {
            docks[i] = Plans.five(500, 500, 500);
            docks[i].pull(2);
            String before = Plans.state(docks[i]);
            DUE.is("call " + i + " throws nothing", Due.outcome(calls[i]).startsWith("throws"), false);
            DUE.is("call " + i + " is saved", docks[i].undo(), 2);
            DUE.is("call " + i + " is undone", Plans.state(docks[i]), before);
        }
        KeelBlocks refused = Plans.five(500, 500, 500);
        DUE.illegalArgument("addBlock", () -> refused.addBlock(401, 1, 1, 1));
        DUE.illegalArgument("setCap", () -> refused.setCap(0, 51));
        DUE.illegalArgument("setLimit", () -> refused.setLimit(0, 0));
        DUE.illegalArgument("setShip", () -> refused.setShip(0, 0));
        DUE.outOfBounds("pull", () -> refused.pull(5));
        DUE.illegalState("put", () -> refused.put(0));
        DUE.is("nothing more is saved", refused.undo(), 0);
        KeelBlocks shaved = Plans.of("b100,1,0,400;b300,1,0,400;");
        shaved.shave();
        shaved.undo();
        DUE.is("caps", Plans.about(shaved, 2), "0 0");
        DUE.is("shaved steps", Plans.about(shaved, 8), "0 0");
        KeelBlocks crushed = Plans.five(500, 249, 199);
        crushed.cascade();
        crushed.put(2);
        crushed.undo();
        DUE.is("states", Plans.about(crushed, 4), "0 2 2 2 0");
    }

    private static void promise25AndTheText() {
        KeelBlocks dock = new KeelBlocks();
        Plans.enter(dock, "b1,1,1,1;");
        dock.parse();
        dock.append('s');
        dock.undo();
        DUE.is("undo leaves the text", dock.clearText(), 10);
    }

    private static long hash(long... values) {
        long h = 3433;
        for (long v : values) {
            h = 31 * h + v;
        }
        return h;
    }

    private static void promise26() {
        KeelBlocks dock = new KeelBlocks();
        DUE.is("a new dock", dock.digest(), hash(0, 1000, 200, 0, 0, 0, 0, 0, 1, 0, -1, 0, 0, 0, 0));
        Plans.enter(dock, "b100,10,0,500;b300,10,0,499;");
        DUE.is("with a text", dock.digest(), hash(28, 1000, 200, 0, 0, 0, 0, 0, 1, 0, -1, 0, 0, 0, 0));
        dock.parse();
        DUE.is("two blocks", dock.digest(), hash(28, 1000, 200, 2, 2, 2, 1, 1, 1, 500, 0,
                200000000, 0, 4000000,
                100, 10, 0, 500, 0, 500, 1, 0, 0,
                300, 10, 0, 499, 0, 500, 1, 1, 0,
                1));
        dock.clearText();
        dock.cascade();
        // b * D and the rest are 0 when the ship does not stand; one block is left, with D 0 in round 1
        DUE.is("one crushed", dock.digest(), hash(0, 1000, 200, 2, 1, 0, 0, 0, 1, 0, -1, 0, 0, 0,
                100, 10, 0, 500, 0, 0, 0, 0, 0,
                300, 10, 0, 499, 2, 0, 0, 0, 0,
                2));
        dock.undo();
        dock.shave();
        // the loads of two blocks do not depend on the caps; S0 = 20, S1 = 4000, S2 = 1000000, F = 1500, M = 350000
        DUE.is("shaved", dock.digest(), hash(0, 1000, 200, 2, 2, 2, 1, 1, 1, 500, 0,
                100000000, 1000000, 4000000,
                100, 10, 0, 500, 0, 500, 1, 0, 0,
                300, 10, -50, 499, 0, 500, 1, 1, 50,
                2));
        DUE.is("asking changes nothing", dock.digest(), dock.digest());
    }

    private StateTest() {
    }
}
