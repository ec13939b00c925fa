/** The boundaries that "Terms" names for blocks, the ship, and the balance; one method for each sentence. */
final class TermsBoundsTest {
    private static final Due DUE = new Due("TermsBoundsTest");

    /** Twelve blocks on which a ship of weight 29 settles late: how late depends on its center. */
    private static final int[][] SLOW = {{269, 93, -28}, {217, 46, 33}, {400, 66, -3}, {382, 5, 9}, {394, 90, 6},
        {21, 71, 0}, {98, 83, 22}, {352, 22, 16}, {130, 36, 40}, {122, 50, 36}, {270, 1, 44}, {7, 79, -46}};

    /** The sets of the rounds go round in a ring for ever. */
    private static final String RING =
            "b200,5,0,100;b200,5,0,100;b201,1,50,99999;b0,1,-50,99999;b400,1,-50,99999;s1,200;";

    public static void main(String[] args) {
        DUE.each(TermsBoundsTest.class);
        DUE.end();
    }

    private static void callsOfAnObject() {
        DUE.sentence("What it is", "An object is used for at most 512 calls after it has been made");
        KeelBlocks dock = new KeelBlocks();
        for (int call = 1; call <= 510; call++) {
            dock.setShip(call, call % 401);
        }
        DUE.is("call 511", dock.undo(), 3);
        DUE.is("call 512", dock.value(0), 509);
    }

    private static void sixteenBlocks() {
        DUE.sentence("Terms", "There are at most 16 blocks");
        KeelBlocks dock = new KeelBlocks();
        for (int i = 0; i < 15; i++) {
            dock.addBlock(25 * i, 1, 0, 1);
        }
        DUE.is("the 16th", dock.addBlock(375, 1, 0, 1), 15);
        DUE.illegalState("the 17th", () -> dock.addBlock(400, 1, 0, 1));
        DUE.is("blocks", dock.value(2), 16);
        DUE.is("all are crushed", dock.cascade(), 16);
        DUE.illegalState("the 17th, of which none stands", () -> dock.addBlock(400, 1, 0, 1));
        DUE.is("blocks still", dock.value(2), 16);
    }

    private static void numbersOfBlocks() {
        DUE.sentence("Terms", "numbered from 0 in the order in which they were added");
        KeelBlocks dock = new KeelBlocks();
        DUE.is("the first", dock.addBlock(300, 1, 0, 1), 0);
        DUE.is("the second, farther to the left", dock.addBlock(100, 1, 0, 1), 1);
        DUE.is("the third, on the same place", dock.addBlock(100, 1, 0, 1), 2);
        DUE.is("places", Plans.about(dock, 0), "300 100 100");
        dock.undo();
        DUE.is("another third", dock.addBlock(200, 1, 0, 1), 2);
        DUE.is("places again", Plans.about(dock, 0), "300 100 200");
    }

    private static void placesOfBlocks() {
        DUE.sentence("Terms", "A block has a place, 0 to 400");
        KeelBlocks dock = new KeelBlocks();
        DUE.illegalArgument("-1", () -> dock.addBlock(-1, 1, 0, 1));
        DUE.is("0", dock.addBlock(0, 1, 0, 1), 0);
        DUE.is("400", dock.addBlock(400, 1, 0, 1), 1);
        DUE.illegalArgument("401", () -> dock.addBlock(401, 1, 0, 1));
        DUE.is("places", Plans.about(dock, 0), "0 400");
    }

    private static void stiffnessesOfBlocks() {
        DUE.sentence("Terms", "a stiffness, 1 to 100");
        KeelBlocks dock = new KeelBlocks();
        DUE.illegalArgument("0", () -> dock.addBlock(1, 0, 0, 1));
        DUE.is("1", dock.addBlock(1, 1, 0, 1), 0);
        DUE.is("100", dock.addBlock(1, 100, 0, 1), 1);
        DUE.illegalArgument("101", () -> dock.addBlock(1, 101, 0, 1));
        DUE.is("stiffnesses", Plans.about(dock, 1), "1 100");
    }

    private static void capsOfBlocks() {
        DUE.sentence("Terms", "a cap, the height of its top, -50 to 50");
        KeelBlocks dock = new KeelBlocks();
        DUE.illegalArgument("-51", () -> dock.addBlock(1, 1, -51, 1));
        DUE.is("-50", dock.addBlock(1, 1, -50, 1), 0);
        DUE.is("50", dock.addBlock(1, 1, 50, 1), 1);
        DUE.illegalArgument("51", () -> dock.addBlock(1, 1, 51, 1));
        DUE.is("caps", Plans.about(dock, 2), "-50 50");
    }

    private static void limitsOfBlocks() {
        DUE.sentence("Terms", "a limit, 1 to 99999, the greatest load that it bears");
        KeelBlocks dock = new KeelBlocks();
        DUE.illegalArgument("0", () -> dock.addBlock(1, 1, 0, 0));
        DUE.is("1", dock.addBlock(1, 1, 0, 1), 0);
        DUE.is("99999", dock.addBlock(1, 1, 0, 99999), 1);
        DUE.illegalArgument("100000", () -> dock.addBlock(1, 1, 0, 100000));
        DUE.is("limits", Plans.about(dock, 3), "1 99999");
    }

    private static void statesOfBlocks() {
        DUE.sentence("Terms", "It stands, is pulled out, or is crushed (it stands at first).");
        KeelBlocks dock = Plans.five(999, 999, 999);
        DUE.is("at first", Plans.about(dock, 4), "0 0 0 0 0");
        dock.pull(2);
        dock.setLimit(0, 1);
        dock.cascade();
        DUE.is("one is pulled out, one is crushed", Plans.about(dock, 4), "2 0 1 0 0");
        dock.addBlock(50, 1, 0, 1);
        DUE.is("a new one stands", Plans.about(dock, 4), "2 0 1 0 0 0");
    }

    private static void weightOfTheShip() {
        DUE.sentence("Terms", "The ship has a weight, 1 to 100000, initially 1000");
        KeelBlocks dock = new KeelBlocks();
        DUE.is("initially", dock.value(0), 1000);
        DUE.illegalArgument("0", () -> dock.setShip(0, 200));
        DUE.illegalArgument("100001", () -> dock.setShip(100001, 200));
        dock.setShip(1, 200);
        DUE.is("1", dock.value(0), 1);
        dock.setShip(100000, 200);
        DUE.is("100000", dock.value(0), 100000);
    }

    private static void centerOfTheShip() {
        DUE.sentence("Terms", "and a center of gravity at a place, 0 to 400, initially 200");
        KeelBlocks dock = new KeelBlocks();
        DUE.is("initially", dock.value(1), 200);
        DUE.illegalArgument("-1", () -> dock.setShip(1, -1));
        DUE.illegalArgument("401", () -> dock.setShip(1, 401));
        dock.setShip(1, 0);
        DUE.is("0", dock.value(1), 0);
        dock.setShip(1, 400);
        DUE.is("400", dock.value(1), 400);
    }

    private static void twoDifferentPlaces() {
        DUE.sentence("Terms", "there are such numbers if D is above 0 (if the set has two different places)");
        KeelBlocks dock = new KeelBlocks();
        dock.addBlock(200, 1, 0, 999);
        DUE.is("one block, with the ship right above it", dock.value(6), 0);
        for (int i = 1; i < 15; i++) {
            dock.addBlock(200, 1, 0, 999);
        }
        DUE.is("fifteen blocks on one place", dock.value(6), 0);
        dock.addBlock(199, 1, 0, 999);
        DUE.is("center on the place of the fifteen", dock.value(6), 0);
        KeelBlocks near = Plans.of("b200,1,0,999;b202,1,0,999;s1000,201;");
        DUE.is("two places with the center between them", near.value(6), 1);
        DUE.is("its D", near.balance(2), 4);
        KeelBlocks least = Plans.of("b200,1,0,999;b201,1,0,999;s1000,200;");
        DUE.is("a D of 1 leads to round 2", least.value(7), 2);
        DUE.is("in which one block is left", least.value(6), 0);
    }

    private static void exactFractions() {
        DUE.sentence("Terms", "a = (F * S2 - M * S1) / D and b = (M * S0 - F * S1) / D, as exact fractions.");
        KeelBlocks dock = Plans.five(999, 999, 999);
        dock.setShip(1, 299);
        // the presses are 0.002, 0.101, 0.2, 0.299 and 0.398
        DUE.is("a press of 0.002 bears", Plans.about(dock, 6), "1 1 1 1 1");
        DUE.is("loads", Plans.loads(dock), "0 0 0 0 1");
        DUE.is("a * D", dock.balance(0), 1000);
        DUE.is("b * D", dock.balance(1), 495);
    }

    private static void firstRoundHasAllThatStand() {
        DUE.sentence("Terms", "in round 1 the set has all standing blocks.");
        KeelBlocks dock = Plans.five(999, 999, 999);
        DUE.is("all five bear in round 1", dock.value(7), 1);
        dock.pull(0);
        DUE.is("the four that stand bear in round 1", dock.value(7), 1);
        DUE.is("D of the four", dock.balance(2), 4L * 300000 - 1000L * 1000);
        dock.setLimit(4, 1);
        dock.cascade();
        DUE.is("the three that are not crushed", dock.balance(2), 3L * 140000 - 600L * 600);
        DUE.is("in round 1", dock.value(7), 1);
    }

    private static void laterRoundsHaveAllThatStand() {
        DUE.sentence("Terms", "the set of the next round has all standing blocks (not only those of this set)");
        // the sets are 0 1 2 3, 0 2, and 0 1 2, so block 1 comes back
        KeelBlocks dock = Plans.of("b0,2,20,999;b300,2,-30,999;b200,2,10,999;b0,6,-5,999;s80,150;");
        DUE.is("one comes back", Plans.about(dock, 6), "1 1 1 0");
        DUE.is("rounds", dock.value(7), 3);
        DUE.is("loads", Plans.loads(dock), "21 3 56 0");
    }

    private static void laterRoundsHaveOnlyThoseThatStand() {
        DUE.sentence("Terms", "has all standing blocks");
        // at last the keel lies level on two blocks, so that it would press on those at 0, too
        KeelBlocks dock = Plans.of("b0,1,0,999;b0,1,50,1;b100,1,0,999;b300,1,0,999;");
        dock.cascade();
        DUE.is("a crushed one does not bear", Plans.about(dock, 6), "1 0 1 1");
        dock.pull(0);
        DUE.is("one that is out does not bear", Plans.about(dock, 6), "0 0 1 1");
        DUE.is("loads", Plans.loads(dock), "0 0 500 500");
    }

    private static void pressOfNothing() {
        DUE.sentence("Terms", "whose press, with these a and b, is above 0.");
        KeelBlocks dock = Plans.five(999, 999, 999);
        dock.setShip(1000, 299);
        DUE.is("a press of 2 at 0", Plans.about(dock, 6), "1 1 1 1 1");
        DUE.is("loads of all", Plans.loads(dock), "2 101 200 299 398");
        dock.setShip(1000, 300);
        DUE.is("a press of 0 at 0", Plans.about(dock, 6), "0 1 1 1 1");
        DUE.is("one more round for it", dock.value(7), 2);
        DUE.is("loads of the others", Plans.loads(dock), "0 100 200 300 400");
        dock.setShip(1000, 301);
        DUE.is("a press below 0 at 0", Plans.about(dock, 6), "0 1 1 1 1");
        DUE.is("loads of the others again", Plans.loads(dock), "0 97 199 301 403");
    }

    private static KeelBlocks slow(int center) {
        KeelBlocks dock = new KeelBlocks();
        for (int[] block : SLOW) {
            dock.addBlock(block[0], block[1], block[2], 99999);
        }
        dock.setShip(29, center);
        return dock;
    }

    private static void roundsThatEndBehindTheSameSet() {
        DUE.sentence("Terms", "The rounds end behind a round whose set is the same as the next one's would be");
        KeelBlocks dock = Plans.five(999, 999, 999);
        DUE.is("round 1", dock.value(7), 1);
        dock.setShip(1000, 310);
        DUE.is("round 2", dock.value(7), 2);
        KeelBlocks late = slow(371);
        DUE.is("round 29", late.value(7), 29);
        DUE.is("the ship stands with 29", late.value(6), 1);
        KeelBlocks last = slow(374);
        DUE.is("round 30", last.value(7), 30);
        DUE.is("the ship stands with 30", last.value(6), 1);
    }

    private static void roundsThatEndBehindThirty() {
        DUE.sentence("Terms", "or behind round 30.");
        KeelBlocks late = slow(375);
        DUE.is("no round 31, behind which it would stand", late.value(7), 30);
        DUE.is("the ship does not stand", late.value(6), 0);
        KeelBlocks ring = Plans.of(RING);
        DUE.is("rounds of a ring", ring.value(7), 30);
        DUE.is("the ship does not stand on a ring", ring.value(6), 0);
    }

    private static void roundsThatEndEarly() {
        DUE.sentence("Terms", "If in some round D is 0 or the set is empty, the rounds end, too");
        DUE.is("no blocks", new KeelBlocks().value(7), 1);
        KeelBlocks crushed = Plans.five(1, 1, 1);
        crushed.cascade();
        DUE.is("no block that stands", crushed.value(7), 1);
        DUE.is("one block", Plans.of("b200,1,0,999;").value(7), 1);
        DUE.is("one place", Plans.of("b200,1,0,999;b200,9,9,999;").value(7), 1);
        DUE.is("one block is left for round 2", Plans.of("b100,1,0,999;b200,1,0,999;").value(7), 2);
        DUE.is("one place is left for round 2", Plans.of("b100,1,0,999;b200,1,0,999;b200,1,0,999;").value(7), 2);
        // the sets have five blocks, the three at 200 to 400, the two at 300 and 400, and the one at 400
        KeelBlocks end = Plans.five(999, 999, 999);
        end.setShip(1000, 400);
        DUE.is("one block is left for round 4", end.value(7), 4);
    }

    private static void noLoadsIfItDoesNotStand() {
        DUE.sentence("Terms", "the ship does not stand, and there are no loads "
                + "(no block bears then, and none is overloaded).");
        // in round 1 each block bears and is overloaded
        KeelBlocks[] docks = {Plans.of("b200,1,0,1;"), Plans.of("b200,1,0,1;b200,1,0,1;"),
            Plans.of("b100,1,0,1;b200,1,0,1;"), Plans.of(RING), slow(375)};
        for (KeelBlocks dock : docks) {
            String none = "0 ".repeat(dock.value(2)).trim();
            DUE.is("stands", dock.value(6), 0);
            DUE.is("loads", Plans.loads(dock), none);
            DUE.is("bear", Plans.about(dock, 6), none);
            DUE.is("overloaded", Plans.about(dock, 7), none);
            DUE.is("those that bear", dock.value(4), 0);
            DUE.is("those that are overloaded", dock.value(5), 0);
        }
        KeelBlocks fallen = Plans.of("b100,1,0,1;b300,1,0,1;");
        DUE.is("overloaded as long as it stands", fallen.value(5), 2);
        fallen.setShip(1000, 300);
        DUE.is("not any more", Plans.loads(fallen) + Plans.about(fallen, 6) + Plans.about(fallen, 7), "0 00 00 0");
    }

    private static void lastSetBears() {
        DUE.sentence("Terms", "Otherwise it stands on the last set, the blocks that bear.");
        KeelBlocks dock = Plans.five(999, 999, 999);
        DUE.is("all five", dock.value(4), 5);
        dock.setShip(1000, 399);
        // with the center 399 the loads of the last two are 10 and 990
        DUE.is("the last two", Plans.about(dock, 6), "0 0 0 1 1");
        DUE.is("loads of the last two", Plans.loads(dock), "0 0 0 10 990");
        DUE.is("it stands", dock.value(6), 1);
    }

    private static void forcesAreRoundedDown() {
        DUE.sentence("Terms", "The load of a block that bears is its force, rounded down to a whole number");
        KeelBlocks dock = Plans.of("b100,1,0,999;b300,1,0,999;s1000,200;");
        DUE.is("whole forces", Plans.loads(dock), "500 500");
        dock.setShip(1000, 201);
        DUE.is("495 and 505", Plans.loads(dock), "495 505");
        dock.setShip(1001, 202);
        // 490.49 and 510.51
        DUE.is("the lesser fraction is cut off", Plans.loads(dock), "490 511");
        dock.setShip(1001, 198);
        DUE.is("the greater fraction is not", Plans.loads(dock), "511 490");
    }

    /** Sixteen blocks, each of which has a sixteenth of the weight. */
    private static KeelBlocks sixteenths(int weight) {
        KeelBlocks dock = new KeelBlocks();
        for (int i = 0; i < 16; i++) {
            dock.addBlock(i % 2 == 0 ? 100 : 300, 1, 0, 999);
        }
        dock.setShip(weight, 200);
        return dock;
    }

    private static void greatestFractionsGetOneMore() {
        DUE.sentence("Terms", "the r blocks with the greatest fractions that were cut off "
                + "(equal fractions: the lower numbers first) get 1 more.");
        DUE.is("r is 0", Plans.loads(sixteenths(16)), "1 1 1 1 1 1 1 1 1 1 1 1 1 1 1 1");
        DUE.is("r is 1", Plans.loads(sixteenths(17)), "2 1 1 1 1 1 1 1 1 1 1 1 1 1 1 1");
        DUE.is("r is 15", Plans.loads(sixteenths(15)), "1 1 1 1 1 1 1 1 1 1 1 1 1 1 1 0");
        // 300.3, 300.3 and 400.4
        DUE.is("the greatest has the highest number",
                Plans.loads(Plans.of("b100,3,0,9;b300,3,0,9;b200,4,0,9;s1001,200;")), "300 300 401");
        // 300.6, 300.6 and 400.8
        DUE.is("two of three", Plans.loads(Plans.of("b100,3,0,9;b300,3,0,9;b200,4,0,9;s1002,200;")), "301 300 401");
        // 400.8, 300.6 and 300.6
        DUE.is("two of three, in another order",
                Plans.loads(Plans.of("b200,4,0,9;b100,3,0,9;b300,3,0,9;s1002,200;")), "401 301 300");
        // 2.7 and 0.3
        DUE.is("the fraction, not the force", Plans.loads(Plans.of("b100,1,0,9;b200,1,0,9;s3,110;")), "3 0");
        // 0.3 and 0.7 behind 5 and 1
        DUE.is("the fraction, not the force, of the lesser one",
                Plans.loads(Plans.of("b100,1,0,9;b200,1,0,9;s7,125;")), "5 2");
    }

    private static void equalFractions() {
        DUE.sentence("Terms", "(equal fractions: the lower numbers first)");
        DUE.is("two halves", Plans.loads(Plans.of("b100,1,0,9;b300,1,0,9;s1,200;")), "1 0");
        // 2.5 and 7.5
        DUE.is("the lesser one first", Plans.loads(Plans.of("b100,1,0,9;b300,1,0,9;s10,250;")), "3 7");
        DUE.is("the greater one first", Plans.loads(Plans.of("b300,1,0,9;b100,1,0,9;s10,250;")), "8 2");
        DUE.is("three thirds", Plans.loads(Plans.of("b300,1,0,9;b200,1,0,9;b100,1,0,9;s2,200;")), "1 1 0");
        DUE.is("one that does not bear is passed over",
                Plans.loads(Plans.of("b200,1,-50,9;b300,1,0,9;b100,1,0,9;s3,200;")), "0 2 1");
    }

    private static void otherBlocksHaveNoLoad() {
        DUE.sentence("Terms", "All other blocks have the load 0.");
        KeelBlocks dock = Plans.of("b200,1,-50,9;b300,1,0,999;b100,1,0,999;b200,1,0,1;b250,1,0,999;s90,200;");
        DUE.is("too low", dock.block(0, 5), 0);
        dock.cascade();
        DUE.is("crushed", dock.block(3, 5), 0);
        dock.pull(4);
        DUE.is("too low, crushed and pulled out", Plans.loads(dock), "0 45 45 0 0");
    }

    private static void loadAtTheLimit() {
        DUE.sentence("Terms", "A block is overloaded if its load is above its limit.");
        KeelBlocks dock = Plans.of("b100,1,0,501;b300,1,0,500;");
        DUE.is("below and at the limit", Plans.about(dock, 7), "0 0");
        dock.setLimit(1, 499);
        DUE.is("above the limit", Plans.about(dock, 7), "0 1");
        // 500.5 and 500.5 are 501 and 500 as they are rounded
        KeelBlocks rounded = Plans.of("b100,1,0,500;b300,1,0,500;s1001,200;");
        DUE.is("by the 1 that it gets", Plans.about(rounded, 7), "1 0");
    }

    private TermsBoundsTest() {
    }
}
