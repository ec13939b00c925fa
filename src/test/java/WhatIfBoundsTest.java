/** The boundaries that promises 14, 15 and 19 to 21 name; one method for each sentence. */
final class WhatIfBoundsTest {
    private static final Due DUE = new Due("WhatIfBoundsTest");
    private static final int LEAST = Integer.MIN_VALUE;
    private static final int MOST = Integer.MAX_VALUE;

    public static void main(String[] args) {
        DUE.each(WhatIfBoundsTest.class);
        DUE.end();
    }

    private static void loadWithoutWhateverItsState() {
        DUE.sentence("Promise 14", "(whatever its state; it can be the same one)");
        KeelBlocks dock = Plans.five(999, 999, 999);
        DUE.is("one that stands", dock.loadWithout(0, 2), 250);
        dock.pull(2);
        DUE.is("one that is out", dock.loadWithout(0, 2), 250);
        DUE.is("another one as well", dock.loadWithout(4, 3), 423);
        dock.put(2);
        dock.setLimit(2, 1);
        dock.cascade();
        DUE.is("one that is crushed", dock.loadWithout(0, 2), 250);
        DUE.is("the same one", dock.loadWithout(2, 2), 0);
        DUE.is("the same one that stands", dock.loadWithout(3, 3), 0);
        DUE.is("the state stays", Plans.about(dock, 4), "0 0 2 0 0");
    }

    private static void loadWithoutThePulledOne() {
        DUE.sentence("Promise 14", "Returns the load (0 for the pulled one; overloads do not matter)");
        KeelBlocks dock = Plans.of("b100,1,0,1;b200,1,0,1;b300,1,0,1;b200,1,-50,1;s90,200;");
        DUE.is("the pulled one", dock.loadWithout(1, 1), 0);
        DUE.is("overloads", dock.loadWithout(0, 1), 45);
        DUE.is("one that does not bear", dock.loadWithout(3, 1), 0);
        DUE.is("without one that does not bear", dock.loadWithout(2, 3), 30);
        KeelBlocks rocking = Plans.of("b100,10,0,999;b200,10,50,999;b300,10,0,999;s500,200;");
        DUE.is("the ship does not stand now", rocking.value(6), 0);
        DUE.is("but would then", rocking.loadWithout(2, 1), 250);
    }

    private static void loadWithoutAShip() {
        DUE.sentence("Promise 14", "NONE if the ship would not stand.");
        KeelBlocks dock = Plans.of("b100,1,0,999;b300,1,0,999;");
        DUE.is("on one block", dock.loadWithout(0, 1), -1);
        DUE.is("on the other block", dock.loadWithout(1, 0), -1);
        DUE.is("on one block, for the pulled one", dock.loadWithout(0, 0), -1);
        KeelBlocks one = Plans.of("b200,1,0,999;");
        DUE.is("on no block", one.loadWithout(0, 0), -1);
    }

    private static void loadWithoutNoBlock() {
        DUE.sentence("Promise 14", "Throws `IndexOutOfBoundsException` if there is no such block");
        KeelBlocks dock = Plans.five(999, 999, 999);
        for (int block : new int[] {LEAST, -1, 5, 16, 32, MOST}) {
            DUE.outOfBounds("block " + block, () -> dock.loadWithout(block, 2));
            DUE.outOfBounds("without " + block, () -> dock.loadWithout(2, block));
            DUE.outOfBounds("both " + block, () -> dock.loadWithout(block, block));
        }
        DUE.is("the first without the last", dock.loadWithout(0, 4), 100);
        DUE.is("the last without the first", dock.loadWithout(4, 0), 100);
        DUE.outOfBounds("none at all", () -> new KeelBlocks().loadWithout(0, 0));
        DUE.is("block 15 of 16", Plans.full().loadWithout(15, 15), 0);
        DUE.outOfBounds("block 16 of 16", () -> Plans.full().loadWithout(16, 0));
        DUE.outOfBounds("without block 16 of 16", () -> Plans.full().loadWithout(0, 16));
    }

    private static void pullableEachByItself() {
        DUE.sentence("Promise 15", "Counts the blocks that could be pulled out now, each by itself, by pull().");
        DUE.is("no block", new KeelBlocks().pullable(), 0);
        DUE.is("neither of two", Plans.of("b100,1,0,999;b300,1,0,999;").pullable(), 0);
        DUE.is("all of five, though not together", Plans.five(999, 999, 999).pullable(), 5);
        // of sixteen blocks in two places any one can be pulled
        KeelBlocks full = new KeelBlocks();
        for (int i = 0; i < 16; i++) {
            full.addBlock(i % 2 == 0 ? 100 : 300, 1, 0, 999);
        }
        DUE.is("all of sixteen", full.pullable(), 16);
        full.pull(0);
        full.pull(15);
        DUE.is("those that are out do not count", full.pullable(), 14);
        full.setLimit(1, 1);
        full.cascade();
        DUE.is("one that is crushed does not, either", full.pullable(), 13);
    }

    private static void pullableByPull() {
        DUE.sentence("Promise 15", "by pull().");
        // with the middle pulled the others have 250, with one beside it the greatest load is 315, with an end 400
        DUE.is("loads at the limit", Plans.five(250, 250, 1).pullable(), 1);
        DUE.is("loads above the limit", Plans.five(250, 249, 1).pullable(), 0);
        DUE.is("an overload of now does not matter", Plans.of("b100,1,0,500;b200,1,0,1;b300,1,0,500;").pullable(), 1);
        KeelBlocks rocking = Plans.of("b100,10,0,999;b200,10,50,999;b300,10,0,999;s500,200;");
        DUE.is("nor whether the ship stands now", rocking.pullable(), 1);
    }

    private static void greatestWeightOfThousands() {
        DUE.sentence("Promise 19", "Returns the greatest such weight among 1000, 2000, 3000, and so on, up to 100000");
        DUE.is("1000", Plans.of("b100,1,0,500;b300,1,0,500;").greatestWeight(), 1000);
        DUE.is("not 1998", Plans.of("b100,1,0,999;b300,1,0,999;").greatestWeight(), 1000);
        DUE.is("2000", Plans.of("b100,1,0,1000;b300,1,0,1000;").greatestWeight(), 2000);
        DUE.is("99000", Plans.of("b100,1,0,49999;b300,1,0,50000;").greatestWeight(), 99000);
        DUE.is("100000", Plans.of("b100,1,0,50000;b300,1,0,50000;").greatestWeight(), 100000);
        DUE.is("no more", Plans.of("b100,1,0,99999;b300,1,0,99999;").greatestWeight(), 100000);
    }

    private static void greatestWeightWithThePresentCenter() {
        DUE.sentence("Promise 19", "Finds the greatest weight with the present center of gravity");
        DUE.is("in the middle", Plans.of("b100,1,0,3000;b300,1,0,3000;s1,200;").greatestWeight(), 6000);
        DUE.is("to the left", Plans.of("b100,1,0,3000;b300,1,0,3000;s1,150;").greatestWeight(), 4000);
        KeelBlocks dock = Plans.of("b100,1,0,3000;b300,1,0,3000;s77,150;");
        dock.greatestWeight();
        DUE.is("the weight stays", dock.value(0), 77);
    }

    private static void greatestWeightThatIsSafe() {
        DUE.sentence("Promise 19", "with which the ship stands and no block is overloaded");
        DUE.is("a load of 1 above the limit", Plans.of("b100,1,0,2999;b300,1,0,3000;").greatestWeight(), 5000);
        DUE.is("beside the blocks nothing is overloaded, but it does not stand",
                Plans.of("b100,1,0,3000;b150,1,0,3000;").greatestWeight(), -1);
    }

    private static void greatestWeightWhateverLesserOnesDo() {
        DUE.sentence("Promise 19", "(whether lesser ones do or not)");
        // up to 5000 the ship rocks on the middle
        KeelBlocks dock = Plans.of("b100,100,0,999;b300,100,0,999;b200,100,50,5333;s5000,200;");
        DUE.is("5000 does not stand", dock.value(6), 0);
        DUE.is("6000", dock.greatestWeight(), 6000);
    }

    private static void noGreatestWeight() {
        DUE.sentence("Promise 19", "NONE if there is none.");
        DUE.is("no block", new KeelBlocks().greatestWeight(), -1);
        DUE.is("no weight below 1000 counts", Plans.of("b100,1,0,499;b300,1,0,500;").greatestWeight(), -1);
        DUE.is("the center is beside the blocks", Plans.of("b100,1,0,9999;b150,1,0,9999;").greatestWeight(), -1);
    }

    private static void leastGreatestLoad() {
        DUE.sentence("Promise 20", "Finds the center of gravity with which the greatest load is least "
                + "(overloads do not matter; only those with which the ship stands are compared)");
        DUE.is("in the middle of two", Plans.of("b100,1,0,1;b300,1,0,1;").bestCenter(), 200);
        DUE.is("between unlike ones", Plans.of("b100,1,0,1;b300,3,50,1;").bestCenter(), 200);
        // 0 and 30: the center 15 is best
        DUE.is("a center of 15", Plans.of("b0,1,0,1;b30,1,0,1;s99999,400;").bestCenter(), 15);
    }

    private static void centersWithWhichItStands() {
        DUE.sentence("Promise 20", "only those with which the ship stands are compared)");
        // the load is 0 wherever the ship does not stand; it stands between the two alone
        DUE.is("between 97 and 103", Plans.of("b97,1,0,9;b103,1,0,9;s1000,7;").bestCenter(), 100);
        DUE.is("between 394 and 396", Plans.of("b394,1,0,9;b396,1,0,9;").bestCenter(), 395);
    }

    private static void centersOfFive() {
        DUE.sentence("Promise 20", "Returns the center, one of 0, 5, 10, and so on, up to 400");
        DUE.is("5", Plans.of("b0,1,0,9;b10,1,0,9;").bestCenter(), 5);
        DUE.is("5 though 6 would be better", Plans.of("b1,1,0,9;b11,1,0,9;").bestCenter(), 5);
        DUE.is("10 though 9 would be better", Plans.of("b4,1,0,9;b14,1,0,9;").bestCenter(), 10);
        DUE.is("395", Plans.of("b390,1,0,9;b400,1,0,9;").bestCenter(), 395);
        DUE.is("395 though 396 would be better", Plans.of("b393,1,0,9;b400,1,0,9;").bestCenter(), 395);
    }

    private static void lowestCenter() {
        DUE.sentence("Promise 20", "of several the lowest one; NONE if the ship would not stand with any of them.");
        DUE.is("a load of 1 at either end", Plans.of("b100,1,0,9;b300,1,0,9;s1,400;").bestCenter(), 105);
        // for 100 to 300 the block at 200 has a half, and none has more
        DUE.is("a range of centers", Plans.of("b0,1,0,9;b200,2,0,9;b400,1,0,9;").bestCenter(), 100);
    }

    private static void noCenter() {
        DUE.sentence("Promise 20", "NONE if the ship would not stand with any of them.");
        DUE.is("no block", new KeelBlocks().bestCenter(), -1);
        DUE.is("one block on a center", Plans.of("b200,1,0,9;").bestCenter(), -1);
        DUE.is("one place", Plans.of("b200,1,0,9;b200,1,0,9;").bestCenter(), -1);
        DUE.is("no center between the two", Plans.of("b201,1,0,9;b204,1,0,9;").bestCenter(), -1);
        DUE.is("centers on the two alone", Plans.of("b200,1,0,9;b205,1,0,9;").bestCenter(), -1);
    }

    private static void oneMoreBlock() {
        DUE.sentence("Promise 21", "Finds the place for one more block, with a stiffness, and with the cap 0");
        // with the cap -1 it would be 30, with the cap 1 it would be 0
        DUE.is("the cap", Plans.of("b190,1,0,9;b330,1,0,9;s29,190;").bestPlace(5), 40);
        KeelBlocks dock = Plans.of("b200,10,0,9;s1000,210;");
        dock.bestPlace(100);
        DUE.is("no block is added", dock.value(2), 1);
        DUE.is("a stiffness of 1", Plans.of("b150,1,0,9;b250,1,0,9;").bestPlace(1), triedPlace(1));
        DUE.is("a stiffness of 100", Plans.of("b150,1,0,9;b250,1,0,9;").bestPlace(100), triedPlace(100));
        DUE.is("they differ", triedPlace(1) != triedPlace(100), true);
    }

    /** The best place as it is found by blocks that are really added. */
    private static int triedPlace(int stiffness) {
        int best = KeelBlocks.NONE;
        int least = MOST;
        for (int place = 0; place <= 400; place += 10) {
            KeelBlocks dock = Plans.of("b150,1,0,9;b250,1,0,9;");
            dock.addBlock(place, stiffness, 0, 1);
            if (dock.value(6) == 1 && dock.value(8) < least) {
                best = place;
                least = dock.value(8);
            }
        }
        return best;
    }

    private static void leastGreatestLoadWithOneMore() {
        DUE.sentence("Promise 21",
                "with which the greatest load (its own included) would be least, compared likewise.");
        // with 220 the loads are 500 and 500, with 230 they are 667 and 333
        DUE.is("both loads count", Plans.of("b200,10,0,9;s1000,210;").bestPlace(5), 220);
        // with 220 the new one has 750 and the old one 250, with 230 both have 500, with 240 the old one has 625
        DUE.is("its own load counts", Plans.of("b200,10,0,9;s1000,215;").bestPlace(5), 230);
        DUE.is("overloads do not matter", Plans.of("b200,10,0,1;s99999,210;").bestPlace(5), 220);
        // with 0 to 200 the ship does not stand
        DUE.is("only where it stands", Plans.of("b200,10,0,9;s1000,390;").bestPlace(5), 400);
    }

    private static void placesOfTen() {
        DUE.sentence("Promise 21", "Returns the place, one of 0, 10, 20, and so on, up to 400");
        DUE.is("0", Plans.of("b10,10,0,9;s1000,5;").bestPlace(5), 0);
        DUE.is("10", Plans.of("b21,10,0,9;s1000,15;").bestPlace(5), 10);
        DUE.is("400", Plans.of("b390,10,0,9;s1000,395;").bestPlace(5), 400);
        DUE.is("390", Plans.of("b379,10,0,9;s1000,385;").bestPlace(5), 390);
        // with 215 the greatest load would be 533, with 220 it is 600, with 210 it is 800
        DUE.is("220 though 215 would be better", Plans.of("b200,10,0,9;s1000,208;").bestPlace(5), 220);
    }

    private static void lowestPlace() {
        DUE.sentence("Promise 21", "of several the lowest one; NONE if there are 16 blocks");
        DUE.is("a load of 1 anywhere", Plans.of("b200,10,0,9;s1,210;").bestPlace(5), 220);
        DUE.is("a load of 1 on either side", Plans.of("b100,10,0,9;b300,10,0,9;s1,200;").bestPlace(5), 0);
    }

    private static void noPlace() {
        DUE.sentence("Promise 21", "NONE if there are 16 blocks, or the ship would not stand with any of them.");
        KeelBlocks full = Plans.full();
        DUE.is("sixteen blocks", full.bestPlace(1), -1);
        full.pull(8);
        DUE.is("sixteen blocks, one of them out", full.bestPlace(1), -1);
        full.undo();
        full.undo();
        DUE.is("fifteen blocks", full.bestPlace(1) >= 0, true);
        KeelBlocks crushed = new KeelBlocks();
        for (int i = 0; i < 16; i++) {
            crushed.addBlock(25 * i, 1, 0, 1);
        }
        crushed.cascade();
        DUE.is("sixteen blocks, all of them crushed", crushed.bestPlace(1), -1);
        DUE.is("no block", new KeelBlocks().bestPlace(1), -1);
        DUE.is("one block right below the center", Plans.of("b200,10,0,9;").bestPlace(5), -1);
        DUE.is("no place on the other side", Plans.of("b391,10,0,9;s1000,400;").bestPlace(5), -1);
    }

    private static void rangeOfTheStiffness() {
        DUE.sentence("Promise 21", "- `stiffness`: 1 to 100");
        KeelBlocks dock = Plans.of("b200,10,0,9;s1000,210;");
        DUE.illegalArgument("0", () -> dock.bestPlace(0));
        DUE.is("1", dock.bestPlace(1), 220);
        DUE.is("100", dock.bestPlace(100), 220);
        DUE.illegalArgument("101", () -> dock.bestPlace(101));
    }

    private static void stiffnessOutOfRange() {
        DUE.sentence("Promise 21", "Throws `IllegalArgumentException` if stiffness is out of range");
        KeelBlocks dock = Plans.of("b200,10,0,9;s1000,210;");
        for (int stiffness : new int[] {LEAST, -1, 0, 101, MOST}) {
            DUE.illegalArgument("stiffness " + stiffness, () -> dock.bestPlace(stiffness));
            DUE.illegalArgument("stiffness " + stiffness + " and 16 blocks", () -> Plans.full().bestPlace(stiffness));
        }
        DUE.is("in range and 16 blocks", Plans.full().bestPlace(100), -1);
    }

    private static void questionsChangeNothing() {
        DUE.sentence("Not promised", "Nothing is promised beyond the answers and state changes described above");
        KeelBlocks dock = Plans.five(450, 300, 150);
        Plans.enter(dock, "b1,1,1,1;");
        String before = Plans.state(dock);
        dock.loadWithout(0, 1);
        dock.pullable();
        dock.greatestWeight();
        dock.bestCenter();
        dock.bestPlace(7);
        DUE.is("what a question tries does not stay", Plans.state(dock), before);
    }

    private WhatIfBoundsTest() {
    }
}
