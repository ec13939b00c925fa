/** The boundaries of the cascade and of the shaving: "Terms" and promises 8, 9 and 16 to 18. */
final class StepsBoundsTest {
    private static final Due DUE = new Due("StepsBoundsTest");

    /** The ship falls when the block at 300 has been shaved down by some 50. */
    private static final String FALLS = "b150,9,45,225;b300,1,45,225;b0,3,35,25;s100,100;";

    public static void main(String[] args) {
        DUE.each(StepsBoundsTest.class);
        DUE.end();
    }

    /** Five blocks of stiffness 10 and cap 0; each step of the middle takes 8 off its load of 200. */
    private static KeelBlocks middle(int limit) {
        return Plans.of("b0,10,0,999;b100,10,0,999;b200,10,0," + limit + ";b300,10,0,999;b400,10,0,999;");
    }

    /** Five blocks of stiffness 1, the first of them with the cap 50; each step takes 0.8 off its load of 240. */
    private static KeelBlocks high(int limit) {
        return Plans.of("b200,1,50," + limit + ";b0,1,0,999;b100,1,0,999;b300,1,0,999;b400,1,0,999;");
    }

    private static void cascadeOfAllAtOnce() {
        DUE.sentence("Terms", "all of them are crushed at once (they do not stand any more)");
        KeelBlocks dock = Plans.five(199, 999, 199);
        DUE.is("the three in one step", dock.cascadeSteps(), 1);
        DUE.is("the three", dock.cascade(), 3);
        DUE.is("states", Plans.about(dock, 4), "2 0 2 0 2");
        DUE.is("those that stand", dock.value(3), 2);
        DUE.is("loads", Plans.loads(dock), "0 500 0 500 0");
    }

    private static void cascadeAsLongAsItStands() {
        DUE.sentence("Terms", "While the ship stands and blocks are overloaded");
        // the one that is left would have all the load, but the ship does not stand on it
        KeelBlocks dock = Plans.of("b100,1,0,499;b300,1,0,500;");
        DUE.is("one", dock.cascade(), 1);
        DUE.is("the other one stands", Plans.about(dock, 4), "2 0");
        DUE.is("the ship does not", dock.value(6), 0);
        KeelBlocks falls = Plans.of("b100,1,0,1;b200,1,0,1;");
        DUE.is("none if it does not stand at first", falls.cascade(), 0);
        DUE.is("no steps", falls.cascadeSteps(), 0);
        DUE.is("states", Plans.about(falls, 4), "0 0");
    }

    private static void cascadeAsLongAsOverloaded() {
        DUE.sentence("Terms", "and blocks are overloaded");
        KeelBlocks safe = Plans.five(200, 200, 200);
        DUE.is("loads at the limits", safe.cascade(), 0);
        KeelBlocks one = Plans.five(250, 250, 199);
        DUE.is("a load of 1 above the limit", one.cascade(), 1);
        DUE.is("loads at the limits behind it", Plans.loads(one), "250 250 0 250 250");
        DUE.is("no more", one.cascade(), 0);
        DUE.is("a second load of 1 above the limit", Plans.five(999, 249, 199).cascade(), 3);
    }

    private static void cascadeInSteps() {
        DUE.sentence("Terms", "and the balance is found anew; each time is a step.");
        DUE.is("no step", Plans.five(200, 200, 200).cascadeSteps(), 0);
        DUE.is("one step", Plans.five(250, 250, 199).cascadeSteps(), 1);
        DUE.is("two steps", Plans.five(500, 249, 199).cascadeSteps(), 2);
        DUE.is("three steps", Plans.five(499, 249, 199).cascadeSteps(), 3);
        KeelBlocks dock = Plans.five(500, 249, 199);
        dock.cascade();
        DUE.is("the balance behind them", Plans.loads(dock), "500 0 0 0 500");
    }

    private static void cascadeIsUndoable() {
        DUE.sentence("Promise 8", "Carries out the cascade. Undoable.");
        KeelBlocks dock = Plans.five(500, 249, 199);
        String before = Plans.about(dock, 4);
        dock.cascade();
        DUE.is("one state for all steps", dock.undo(), 1);
        DUE.is("states", Plans.about(dock, 4), before);
        KeelBlocks empty = new KeelBlocks();
        DUE.is("nothing to crush", empty.cascade(), 0);
        DUE.is("a state for nothing", empty.undo(), 0);
    }

    private static void crushedBlocks() {
        DUE.sentence("Promise 8", "Returns the number of blocks that are crushed by it.");
        DUE.is("no block", new KeelBlocks().cascade(), 0);
        KeelBlocks dock = Plans.five(500, 249, 199);
        DUE.is("of both steps", dock.cascade(), 3);
        dock.setLimit(0, 499);
        DUE.is("not those of the cascade before", dock.cascade(), 1);
        DUE.is("five states", Plans.about(dock, 4), "2 2 2 2 0");
        KeelBlocks full = new KeelBlocks();
        for (int i = 0; i < 16; i++) {
            full.addBlock(i % 2 == 0 ? 100 : 300, 1, 0, 1);
        }
        DUE.is("all sixteen", full.cascade(), 16);
    }

    private static void stepsOfACascade() {
        DUE.sentence("Promise 16", "Tells how many steps a cascade would have.");
        KeelBlocks dock = Plans.five(499, 249, 199);
        String before = Plans.state(dock);
        DUE.is("it only tells", dock.cascadeSteps(), 3);
        DUE.is("nothing changed", Plans.state(dock), before);
        DUE.is("no block", new KeelBlocks().cascadeSteps(), 0);
        dock.cascade();
        DUE.is("none behind it", dock.cascadeSteps(), 0);
    }

    private static void survivors() {
        DUE.sentence("Promise 17", "Tells whether the ship would stand behind a cascade.");
        DUE.is("no block", new KeelBlocks().survives(), false);
        DUE.is("it does not stand at first", Plans.of("b100,1,0,999;b200,1,0,999;").survives(), false);
        DUE.is("without a step", Plans.five(200, 200, 200).survives(), true);
        DUE.is("behind two steps", Plans.five(500, 249, 199).survives(), true);
        DUE.is("not behind three", Plans.five(499, 249, 199).survives(), false);
        KeelBlocks dock = Plans.five(499, 249, 199);
        String before = Plans.state(dock);
        dock.survives();
        DUE.is("nothing changed", Plans.state(dock), before);
    }

    private static void capIsLoweredByOne() {
        DUE.sentence("Terms", "The cap of a block is lowered by 1 in each step");
        KeelBlocks one = middle(199);
        DUE.is("a load of 1 too much", one.shave(), 1);
        DUE.is("caps", Plans.about(one, 2), "0 0 -1 0 0");
        DUE.is("loads", Plans.loads(one), "202 202 192 202 202");
        DUE.is("as much as a step takes off", middle(192).shavingSteps(), 1);
        DUE.is("1 more", middle(191).shavingSteps(), 2);
    }

    private static void shavingAsLongAsItStands() {
        DUE.sentence("Terms", "as long as the ship stands");
        KeelBlocks falls = Plans.of(FALLS);
        DUE.is("at first it stands", falls.value(6), 1);
        DUE.is("steps up to where it falls", falls.shave(), 53);
        DUE.is("it does not stand", falls.value(6), 0);
        DUE.is("no cap is at its end", Plans.about(falls, 2), "45 45 -18");
        DUE.is("no step behind it", falls.shave(), 0);
        DUE.is("no block", new KeelBlocks().shave(), 0);
    }

    private static void shavingAsLongAsOverloaded() {
        DUE.sentence("Terms", "a block is overloaded, and fewer than 100 steps have been made");
        KeelBlocks dock = middle(200);
        DUE.is("a load at the limit", dock.shave(), 0);
        dock.setLimit(2, 199);
        DUE.is("a load above the limit", dock.shave(), 1);
        DUE.is("not any more", dock.shave(), 0);
    }

    private static void shavingBelowAHundred() {
        DUE.sentence("Terms", "and fewer than 100 steps have been made");
        KeelBlocks all = high(161);
        DUE.is("99 steps", all.shave(), 99);
        DUE.is("are enough", all.value(5), 0);
        all = high(160);
        DUE.is("100 steps", all.shave(), 100);
        DUE.is("are enough, too", all.value(5), 0);
        KeelBlocks more = Plans.of("b100,1,50,100;b200,1,50,100;b300,1,50,100;");
        DUE.is("100 steps and no more", more.shave(), 100);
        DUE.is("all are overloaded still", more.value(5), 3);
    }

    private static void greatestExcess() {
        DUE.sentence("Terms", "the cap of the overloaded block for which load - limit is greatest");
        // the loads of two blocks do not depend on their caps
        KeelBlocks dock = Plans.of("b100,1,0,740;b300,1,48,200;s1000,150;");
        DUE.is("by 50 and not by 10", dock.shave(), 98);
        DUE.is("caps", Plans.about(dock, 2), "0 -50");
        KeelBlocks near = Plans.of("b100,1,0,400;b300,1,48,399;");
        DUE.is("by 101 and not by 100", near.shave(), 98);
        KeelBlocks equal = Plans.of("b100,1,48,501;b300,1,0,499;");
        DUE.is("not the one that is not overloaded", equal.shave(), 50);
        DUE.is("its cap", equal.block(0, 2), 48);
    }

    private static void lowestOfSeveral() {
        DUE.sentence("Terms", "of several the lowest one, is lowered by 1");
        KeelBlocks two = Plans.of("b300,1,0,400;b100,1,0,400;");
        two.shave();
        DUE.is("the lower number, not the lower place", Plans.about(two, 2), "-50 0");
        KeelBlocks unlike = Plans.of("b100,1,40,650;b300,1,0,150;s1000,150;");
        unlike.shave();
        DUE.is("equal overloads of unlike loads", Plans.about(unlike, 2), "-50 0");
        KeelBlocks later = Plans.of("b200,1,-50,9;b300,1,0,4;b100,1,0,4;s30,200;");
        later.shave();
        DUE.is("the lowest of those that are overloaded", Plans.about(later, 2), "-50 -50 0");
        // both are overloaded by 100; place, stiffness, cap, limit and load of one are all lower than the other's
        KeelBlocks high = Plans.of("b300,9,40,650;b100,1,0,150;s1000,250;");
        DUE.is("steps of the one that was added first", high.shave(), 90);
        DUE.is("the one that was added first, though all else of it is higher", Plans.about(high, 2), "-50 0");
        KeelBlocks low = Plans.of("b100,1,0,150;b300,9,40,650;s1000,250;");
        DUE.is("steps of the other one, if it was added first", low.shave(), 50);
        DUE.is("the other one, if it was added first", Plans.about(low, 2), "-50 40");
    }

    private static void capAtItsEnd() {
        DUE.sentence("Terms", "(if its cap is -50, shaving ends ahead of this step, "
                + "whatever other blocks are overloaded)");
        KeelBlocks at = Plans.of("b100,1,-50,400;b300,1,0,401;");
        DUE.is("at -50", at.shave(), 0);
        DUE.is("both are overloaded", at.value(5), 2);
        DUE.is("caps", Plans.about(at, 2), "-50 0");
        KeelBlocks above = Plans.of("b100,1,-49,400;b300,1,0,401;");
        DUE.is("at -49", above.shave(), 1);
        DUE.is("caps behind it", Plans.about(above, 2), "-50 0");
        DUE.is("shaved", Plans.about(above, 8), "1 0");
        KeelBlocks other = Plans.of("b100,1,-49,401;b300,1,-50,401;");
        DUE.is("the other cap does not matter", other.shave(), 1);
    }

    private static void shavedBalance() {
        DUE.sentence("Terms", "is lowered by 1 (if its cap is -50, shaving ends ahead of this step, "
                + "whatever other blocks are overloaded), and the balance is found anew.");
        // three steps of the middle take 24 off its load and put 6 on each of the others, which is too much for block 1
        KeelBlocks dock = Plans.of("b0,10,0,999;b100,10,0,205;b200,10,0,180;b300,10,0,999;b400,10,0,999;");
        DUE.is("three steps and one", dock.shave(), 4);
        DUE.is("caps", Plans.about(dock, 2), "0 -1 -3 0 0");
        // the one takes 7 off its load and puts 4, 2 and 1 on its neighbours
        DUE.is("loads", Plans.loads(dock), "210 199 178 207 206");
    }

    private static void goodShaving() {
        DUE.sentence("Terms", "The shaving is good if the ship stands behind it, and no block is overloaded.");
        DUE.is("good without a step", middle(200).shavingSteps(), 0);
        DUE.is("good with one", middle(199).shavingSteps(), 1);
        DUE.is("a block is overloaded", Plans.of("b100,1,0,499;b300,1,0,999;").shavingSteps(), -1050);
        DUE.is("the ship does not stand behind it", Plans.of(FALLS).shavingSteps(), -1053);
        DUE.is("the ship does not stand at first", Plans.of("b100,1,0,9;b200,1,0,9;").shavingSteps(), -1000);
    }

    private static void shavingIsUndoable() {
        DUE.sentence("Promise 9", "Carries out the shaving. Undoable.");
        KeelBlocks dock = high(160);
        dock.shave();
        DUE.is("one state for a hundred steps", dock.undo(), 1);
        DUE.is("the cap", dock.block(0, 2), 50);
        KeelBlocks empty = new KeelBlocks();
        DUE.is("nothing to shave", empty.shave(), 0);
        DUE.is("a state for nothing", empty.undo(), 0);
    }

    private static void shavedSteps() {
        DUE.sentence("Promise 9", "Returns the number of steps.");
        DUE.is("none", middle(200).shave(), 0);
        DUE.is("one", middle(199).shave(), 1);
        DUE.is("a hundred", high(160).shave(), 100);
        DUE.is("bad ones are told by their number alone", Plans.of(FALLS).shave(), 53);
    }

    private static void shavingStepsAndWhatIsBad() {
        DUE.sentence("Promise 18", "Returns the number of steps; -1000 minus that number if the shaving is not good.");
        DUE.is("no block", new KeelBlocks().shavingSteps(), -1000);
        DUE.is("good, 0", middle(200).shavingSteps(), 0);
        DUE.is("bad, 0", Plans.of("b100,1,-50,400;b300,1,0,999;").shavingSteps(), -1000);
        DUE.is("good, 99", high(161).shavingSteps(), 99);
        DUE.is("good, 100", high(160).shavingSteps(), 100);
        DUE.is("bad, 100", high(159).shavingSteps(), -1100);
        KeelBlocks dock = high(160);
        String before = Plans.state(dock);
        dock.shavingSteps();
        DUE.is("it only tells", Plans.state(dock), before);
    }

    private StepsBoundsTest() {
    }
}
