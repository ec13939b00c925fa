/** Promises 1 to 9: a new dock, and the calls that change it. */
final class DockTest {
    private static final Due DUE = new Due("DockTest");
    private static final int[] FAR = {Integer.MIN_VALUE, Integer.MAX_VALUE};

    public static void main(String[] args) {
        promise1();
        promise2();
        promise3();
        promise4();
        promise5();
        promise6();
        promise6AndStates();
        promise7();
        promise8();
        promise9();
        promise9AndItsEnds();
        DUE.end();
    }

    private static void promise1() {
        KeelBlocks dock = new KeelBlocks();
        DUE.is("weight", dock.value(0), 1000);
        DUE.is("center", dock.value(1), 200);
        DUE.is("blocks", dock.value(2), 0);
        DUE.is("stands", dock.value(6), 0);
        DUE.is("rounds", dock.value(7), 1);
        DUE.is("text", dock.clearText(), 0);
        DUE.illegalState("undo", () -> dock.undo());
        KeelBlocks other = new KeelBlocks();
        other.addBlock(1, 1, 1, 1);
        other.append('b');
        DUE.is("another dock is left alone", dock.value(2), 0);
        DUE.is("another text is left alone", dock.clearText(), 0);
    }

    private static void promise2() {
        KeelBlocks dock = new KeelBlocks();
        DUE.is("first", dock.addBlock(0, 1, -50, 1), 0);
        DUE.is("second", dock.addBlock(400, 100, 50, 99999), 1);
        DUE.is("place", Plans.about(dock, 0), "0 400");
        DUE.is("stiffness", Plans.about(dock, 1), "1 100");
        DUE.is("cap", Plans.about(dock, 2), "-50 50");
        DUE.is("limit", Plans.about(dock, 3), "1 99999");
        DUE.is("it stands", Plans.about(dock, 4), "0 0");
        DUE.is("not shaved", Plans.about(dock, 8), "0 0");
        String before = Plans.state(dock);
        int[][] wrong = {{-1, 1, 0, 1}, {401, 1, 0, 1}, {0, 0, 0, 1}, {0, 101, 0, 1}, {0, 1, -51, 1}, {0, 1, 51, 1},
            {0, 1, 0, 0}, {0, 1, 0, 100000}};
        for (int[] w : wrong) {
            DUE.illegalArgument("addBlock", () -> dock.addBlock(w[0], w[1], w[2], w[3]));
        }
        for (int far : FAR) {
            DUE.illegalArgument("far place", () -> dock.addBlock(far, 1, 0, 1));
            DUE.illegalArgument("far stiffness", () -> dock.addBlock(0, far, 0, 1));
            DUE.illegalArgument("far cap", () -> dock.addBlock(0, 1, far, 1));
            DUE.illegalArgument("far limit", () -> dock.addBlock(0, 1, 0, far));
        }
        DUE.is("nothing changed", Plans.state(dock), before);
        KeelBlocks full = Plans.full();
        before = Plans.state(full);
        DUE.is("sixteen", full.value(2), 16);
        DUE.illegalState("a 17th", () -> full.addBlock(0, 1, 0, 1));
        DUE.illegalArgument("the argument comes first", () -> full.addBlock(401, 1, 0, 1));
        DUE.is("nothing changed by a 17th", Plans.state(full), before);
        full.undo();
        DUE.is("room again", full.addBlock(0, 1, 0, 1), 15);
    }

    private static void promise3() {
        KeelBlocks dock = Plans.of("b100,10,0,999;b200,10,0,999;b300,10,7,999;");
        DUE.is("previous", dock.setCap(2, -50), 7);
        DUE.is("previous again", dock.setCap(2, 50), -50);
        DUE.is("now", dock.block(2, 2), 50);
        // the ship rocks on the high block, until the one opposite is as high
        DUE.is("bears on 2", dock.value(6), 1);
        dock.setCap(0, 50);
        DUE.is("loads", Plans.loads(dock), "500 0 500");
        dock.setCap(1, 50);
        DUE.is("loads on three", Plans.loads(dock), "334 333 333");
        DUE.is("it is no shaving", Plans.about(dock, 8), "0 0 0");
        String before = Plans.state(dock);
        DUE.outOfBounds("no block 3", () -> dock.setCap(3, 0));
        DUE.outOfBounds("no block -1", () -> dock.setCap(-1, 0));
        DUE.outOfBounds("the block comes first", () -> dock.setCap(3, 51));
        for (int far : FAR) {
            DUE.outOfBounds("far block", () -> dock.setCap(far, 0));
            DUE.illegalArgument("far cap", () -> dock.setCap(0, far));
        }
        DUE.illegalArgument("cap 51", () -> dock.setCap(0, 51));
        DUE.illegalArgument("cap -51", () -> dock.setCap(0, -51));
        DUE.is("nothing changed", Plans.state(dock), before);
    }

    private static void promise4() {
        KeelBlocks dock = Plans.of("b100,10,0,500;b300,10,0,501;");
        DUE.is("previous", dock.setLimit(1, 499), 501);
        DUE.is("overloaded", Plans.about(dock, 7), "0 1");
        DUE.is("previous again", dock.setLimit(1, 500), 499);
        DUE.is("its limit is no overload", Plans.about(dock, 7), "0 0");
        DUE.is("greatest", dock.setLimit(1, 99999), 500);
        DUE.is("least", dock.setLimit(1, 1), 99999);
        DUE.is("now", dock.block(1, 3), 1);
        String before = Plans.state(dock);
        DUE.outOfBounds("no block 2", () -> dock.setLimit(2, 1));
        DUE.outOfBounds("no block -1", () -> dock.setLimit(-1, 1));
        DUE.outOfBounds("the block comes first", () -> dock.setLimit(2, 0));
        for (int far : FAR) {
            DUE.outOfBounds("far block", () -> dock.setLimit(far, 1));
            DUE.illegalArgument("far limit", () -> dock.setLimit(0, far));
        }
        DUE.illegalArgument("limit 0", () -> dock.setLimit(0, 0));
        DUE.illegalArgument("limit 100000", () -> dock.setLimit(0, 100000));
        DUE.is("nothing changed", Plans.state(dock), before);
    }

    private static void promise5() {
        KeelBlocks dock = Plans.of("b100,10,0,500;b300,10,0,500;");
        DUE.is("previous", dock.setShip(100000, 150), 1000);
        DUE.is("loads", Plans.loads(dock), "75000 25000");
        DUE.is("previous again", dock.setShip(1, 400), 100000);
        DUE.is("center", dock.value(1), 400);
        DUE.is("beside the blocks", dock.value(6), 0);
        DUE.is("least center", dock.setShip(1, 0), 1);
        String before = Plans.state(dock);
        DUE.illegalArgument("weight 0", () -> dock.setShip(0, 0));
        DUE.illegalArgument("weight 100001", () -> dock.setShip(100001, 0));
        DUE.illegalArgument("center -1", () -> dock.setShip(1, -1));
        DUE.illegalArgument("center 401", () -> dock.setShip(1, 401));
        for (int far : FAR) {
            DUE.illegalArgument("far weight", () -> dock.setShip(far, 0));
            DUE.illegalArgument("far center", () -> dock.setShip(1, far));
        }
        DUE.is("nothing changed", Plans.state(dock), before);
    }

    private static void promise6() {
        KeelBlocks dock = Plans.of("b100,1,0,500;b200,1,0,1000;b300,1,0,499;");
        String before = Plans.state(dock);
        DUE.illegalState("block 2 would be overloaded", () -> dock.pull(1));
        DUE.illegalState("the ship would not stand", () -> dock.pull(0));
        DUE.outOfBounds("no block 3", () -> dock.pull(3));
        DUE.outOfBounds("no block -1", () -> dock.pull(-1));
        for (int far : FAR) {
            DUE.outOfBounds("far block", () -> dock.pull(far));
        }
        DUE.is("nothing changed", Plans.state(dock), before);
        dock.setLimit(2, 500);
        DUE.is("greatest load", dock.pull(1), 500);
        DUE.is("states", Plans.about(dock, 4), "0 1 0");
        DUE.is("loads", Plans.loads(dock), "500 0 500");
        DUE.illegalState("it is out", () -> dock.pull(1));
        DUE.is("blocks", dock.value(2), 3);
        DUE.is("standing", dock.value(3), 2);
    }

    /** Promise 6: how the ship lies and what is overloaded ahead of the pull does not matter. */
    private static void promise6AndStates() {
        KeelBlocks overloaded = Plans.of("b0,1,0,999;b100,1,0,100;b200,1,0,999;b400,1,0,999;");
        DUE.is("overloaded", Plans.about(overloaded, 7), "0 1 0 0");
        DUE.is("the overloaded one is pulled", overloaded.pull(1), 334);
        DUE.is("loads", Plans.loads(overloaded), "334 0 333 333");
        KeelBlocks added = new KeelBlocks();
        added.addBlock(0, 1, 0, 999);
        added.addBlock(100, 1, 0, 999);
        added.addBlock(400, 1, 0, 999);
        DUE.is("the first block", added.pull(0), 667);
        DUE.is("pulled out, not crushed", Plans.about(added, 4), "1 0 0");
        // the light ship rocks on the high block in the middle
        KeelBlocks rocking = Plans.of("b100,10,0,999;b200,10,50,999;b300,10,0,999;s500,200;");
        DUE.is("does not stand", rocking.value(6), 0);
        DUE.is("stands without it", rocking.pull(1), 250);
        DUE.is("stands", rocking.value(6), 1);
    }

    private static void promise7() {
        KeelBlocks dock = Plans.of("b100,1,0,500;b200,1,3,300;b300,1,0,500;");
        String before = Plans.state(dock);
        DUE.illegalState("it stands", () -> dock.put(1));
        DUE.outOfBounds("no block 3", () -> dock.put(3));
        DUE.outOfBounds("no block -1", () -> dock.put(-1));
        for (int far : FAR) {
            DUE.outOfBounds("far block", () -> dock.put(far));
        }
        DUE.is("nothing changed", Plans.state(dock), before);
        dock.pull(1);
        DUE.is("its load, an overload", dock.put(1), 335);
        DUE.is("states", Plans.about(dock, 4), "0 0 0");
        DUE.is("its cap", dock.block(1, 2), 3);
        DUE.is("cascade", dock.cascade(), 1);
        DUE.is("crushed", Plans.about(dock, 4), "0 2 0");
        DUE.is("a crushed one", dock.put(1), 335);
        DUE.is("states behind it", Plans.about(dock, 4), "0 0 0");
        dock.pull(1);
        DUE.is("pulled out, not crushed any more", Plans.about(dock, 4), "0 1 0");
        dock.setCap(1, -50);
        dock.setShip(3, 200);
        DUE.is("too low to bear", dock.put(1), 0);
        DUE.is("the ship stands", dock.value(6), 1);
        KeelBlocks lone = Plans.five(1, 1, 1);
        DUE.is("all are crushed", lone.cascade(), 5);
        DUE.is("the ship does not stand on one", lone.put(2), KeelBlocks.NONE);
        DUE.is("one is back", lone.value(3), 1);
    }

    private static void promise8() {
        KeelBlocks safe = Plans.five(200, 200, 200);
        DUE.is("nothing to crush", safe.cascade(), 0);
        DUE.is("it is saved all the same", safe.undo(), 1);
        KeelBlocks some = Plans.five(500, 249, 199);
        DUE.is("the inner three, one after two", some.cascade(), 3);
        DUE.is("states", Plans.about(some, 4), "0 2 2 2 0");
        DUE.is("loads", Plans.loads(some), "500 0 0 0 500");
        DUE.is("no more", some.cascade(), 0);
        KeelBlocks all = Plans.five(499, 249, 199);
        DUE.is("all of them", all.cascade(), 5);
        DUE.is("does not stand", all.value(6), 0);
        DUE.is("nothing left", all.cascade(), 0);
        all.undo();
        all.undo();
        DUE.is("undone", Plans.about(all, 4), "0 0 0 0 0");
        KeelBlocks atOnce = Plans.five(199, 199, 400);
        DUE.is("all that are overloaded at once", atOnce.cascade(), 4);
        DUE.is("not the middle", Plans.about(atOnce, 4), "2 2 0 2 2");
    }

    private static void promise9() {
        KeelBlocks safe = Plans.five(200, 200, 200);
        DUE.is("nothing to shave", safe.shave(), 0);
        DUE.is("it is saved all the same", safe.undo(), 1);
        // lowering the middle by 1 takes 4/5 of its stiffness off its load: 200 - 8 * steps
        KeelBlocks dock = Plans.of("b0,10,0,999;b100,10,0,999;b200,10,0,180;b300,10,0,999;b400,10,0,999;");
        DUE.is("steps", dock.shave(), 3);
        DUE.is("caps", Plans.about(dock, 2), "0 0 -3 0 0");
        DUE.is("shaved", Plans.about(dock, 8), "0 0 3 0 0");
        DUE.is("loads", Plans.loads(dock), "206 206 176 206 206");
        dock.setLimit(2, 170);
        DUE.is("one more", dock.shave(), 1);
        DUE.is("all the steps so far", dock.block(2, 8), 4);
        dock.setCap(2, 50);
        DUE.is("setCap leaves them", dock.block(2, 8), 4);
        dock.undo();
        dock.undo();
        DUE.is("undo restores them", dock.block(2, 8), 3);
        KeelBlocks crushed = Plans.five(1, 1, 1);
        crushed.cascade();
        DUE.is("does not stand", crushed.shave(), 0);
    }

    /** Promise 9: the tie, the lowest cap, and the most steps. */
    private static void promise9AndItsEnds() {
        // on two blocks the caps do not change the loads
        KeelBlocks tie = Plans.of("b100,1,0,400;b300,1,0,400;");
        DUE.is("down to -50", tie.shave(), 50);
        DUE.is("the lower number, the other one not at all", Plans.about(tie, 2), "-50 0");
        DUE.is("no step at -50", tie.shave(), 0);
        KeelBlocks excess = Plans.of("b100,1,0,400;b300,1,49,399;");
        DUE.is("the greater overload", excess.shave(), 99);
        DUE.is("its cap", Plans.about(excess, 2), "0 -50");
        KeelBlocks most = Plans.of("b100,1,50,100;b200,1,50,100;b300,1,50,100;");
        DUE.is("a hundred steps", most.shave(), 100);
        int shaved = most.block(0, 8) + most.block(1, 8) + most.block(2, 8);
        DUE.is("all counted", shaved, 100);
        int low = Math.min(most.block(0, 2), Math.min(most.block(1, 2), most.block(2, 2)));
        DUE.is("not because of a low cap", low > -50, true);
    }

    private DockTest() {
    }
}
