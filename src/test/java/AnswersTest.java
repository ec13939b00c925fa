/** Promises 10 to 13: what a dock answers about itself. */
final class AnswersTest {
    private static final Due DUE = new Due("AnswersTest");
    private static final int[] FAR = {Integer.MIN_VALUE, Integer.MAX_VALUE};

    public static void main(String[] args) {
        promise10();
        promise11();
        promise11AndRounds();
        promise12();
        promise13();
        loadsAreRounded();
        DUE.end();
    }

    private static void promise10() {
        KeelBlocks dock = Plans.of("b100,1,0,500;b200,2,-3,999;b300,1,0,499;b400,7,-50,9;");
        dock.pull(3);
        dock.setLimit(1, 1);
        // F = 1000 + 6, M = 200000 + 1200, so each press is 251.5 but for the middle's, which is 248.5
        DUE.is("places", Plans.about(dock, 0), "100 200 300 400");
        DUE.is("stiffnesses", Plans.about(dock, 1), "1 2 1 7");
        DUE.is("caps", Plans.about(dock, 2), "0 -3 0 -50");
        DUE.is("limits", Plans.about(dock, 3), "500 1 499 9");
        DUE.is("states", Plans.about(dock, 4), "0 0 0 1");
        DUE.is("loads", Plans.loads(dock), "252 497 251 0");
        DUE.is("bear", Plans.about(dock, 6), "1 1 1 0");
        DUE.is("overloaded", Plans.about(dock, 7), "0 1 0 0");
        dock.cascade();
        DUE.is("states behind the cascade", Plans.about(dock, 4), "0 2 2 1");
        DUE.is("no loads", Plans.loads(dock), "0 0 0 0");
        DUE.is("none bears", Plans.about(dock, 6), "0 0 0 0");
        DUE.is("none is overloaded", Plans.about(dock, 7), "0 0 0 0");
        DUE.is("shaved", Plans.about(dock, 8), "0 0 0 0");
        String before = Plans.state(dock);
        DUE.outOfBounds("no block 4", () -> dock.block(4, 0));
        DUE.outOfBounds("no block -1", () -> dock.block(-1, 0));
        DUE.outOfBounds("the block comes first", () -> dock.block(4, 9));
        DUE.illegalArgument("what 9", () -> dock.block(0, 9));
        DUE.illegalArgument("what -1", () -> dock.block(0, -1));
        for (int far : FAR) {
            DUE.outOfBounds("far block", () -> dock.block(far, 0));
            DUE.illegalArgument("far what", () -> dock.block(0, far));
        }
        DUE.is("nothing changed", Plans.state(dock), before);
        // a force of 1/3: the block bears, though its load is 0
        KeelBlocks light = Plans.of("b100,1,0,9;b200,1,0,9;b300,1,0,9;s1,200;");
        DUE.is("loads of a light ship", Plans.loads(light), "1 0 0");
        DUE.is("all bear", Plans.about(light, 6), "1 1 1");
    }

    private static String values(KeelBlocks dock) {
        StringBuilder row = new StringBuilder();
        for (int what = 0; what <= 9; what++) {
            row.append(what == 0 ? "" : " ").append(dock.value(what));
        }
        return row.toString();
    }

    private static void promise11() {
        KeelBlocks dock = Plans.of("b100,1,0,249;b200,2,0,500;b300,1,0,999;s1002,200;");
        DUE.is("two overloaded", values(dock), "1002 200 3 3 3 2 1 1 501 1");
        dock = Plans.of("b300,1,0,999;b200,1,0,999;b100,1,0,999;s999,200;");
        DUE.is("of several the lowest", values(dock), "999 200 3 3 3 0 1 1 333 0");
        dock.pull(1);
        DUE.is("one is out", values(dock), "999 200 3 2 2 0 1 1 500 0");
        dock.setShip(77, 400);
        DUE.is("does not stand", values(dock), "77 400 3 2 0 0 0 2 0 -1");
        DUE.is("nothing", values(new KeelBlocks()), "1000 200 0 0 0 0 0 1 0 -1");
        KeelBlocks last = dock;
        DUE.illegalArgument("what 10", () -> last.value(10));
        DUE.illegalArgument("what -1", () -> last.value(-1));
        for (int far : FAR) {
            DUE.illegalArgument("far what", () -> last.value(far));
        }
    }

    private static void promise11AndRounds() {
        // round 1: five blocks, the outer left one is lifted; round 2: the other four
        KeelBlocks two = Plans.of("b0,1,0,999;b100,1,0,999;b200,1,0,999;b300,1,0,999;b400,1,0,999;s1000,310;");
        DUE.is("rounds", two.value(7), 2);
        DUE.is("bears", Plans.about(two, 6), "0 1 1 1 1");
        DUE.is("loads", Plans.loads(two), "0 70 190 310 430");
        // D is 0 in the first round for one place, and in the second if one block is left
        KeelBlocks one = Plans.of("b200,1,0,999;b200,2,0,999;");
        DUE.is("one place", one.value(7), 1);
        KeelBlocks left = Plans.of("b100,1,0,999;b200,1,0,999;s1000,200;");
        DUE.is("one block is left", values(left), "1000 200 2 2 0 0 0 2 0 -1");
        KeelBlocks beside = Plans.of("b100,1,0,999;b200,1,0,999;s1000,201;");
        DUE.is("center beside the blocks", values(beside), "1000 201 2 2 0 0 0 2 0 -1");
        // the sets go round in a ring for ever
        KeelBlocks ring = Plans.of("b200,5,0,100;b200,5,0,100;b201,1,50,99999;b0,1,-50,99999;b400,1,-50,99999;s1,200;");
        DUE.is("a ring ends behind round 30", values(ring), "1 200 5 5 0 0 0 30 0 -1");
    }

    private static void promise12() {
        KeelBlocks dock = Plans.of("b100,10,0,999;b300,10,0,999;");
        // S0 = 20, S1 = 4000, S2 = 1000000, F = 1000, M = 200000
        DUE.is("a * D", dock.balance(0), 200000000);
        DUE.is("b * D", dock.balance(1), 0);
        DUE.is("D, not reduced", dock.balance(2), 4000000);
        dock.setCap(0, -4);
        dock.setShip(1000, 150);
        // F = 1040, M = 150000 + 4000
        DUE.is("a * D with a cap", dock.balance(0), 1040L * 1000000 - 154000L * 4000);
        DUE.is("b * D with a cap", dock.balance(1), 154000L * 20 - 1040L * 4000);
        KeelBlocks big = new KeelBlocks();
        for (int i = 0; i < 16; i++) {
            big.addBlock(i % 2 == 0 ? 0 : 400, 100, -50, 99999);
        }
        big.setShip(100000, 1);
        // S0 = 1600, S1 = 320000, S2 = 128000000, F = 180000, M = 100000 + 16000000
        DUE.is("a great a * D", big.balance(0), 180000L * 128000000 - 16100000L * 320000);
        DUE.is("a great b * D", big.balance(1), 16100000L * 1600 - 180000L * 320000);
        DUE.is("a great D", big.balance(2), 1600L * 128000000 - 320000L * 320000);
        // of the last round: S0 = 4, S1 = 1000, S2 = 300000, F = 1000, M = 310000
        KeelBlocks two = Plans.of("b0,1,0,999;b100,1,0,999;b200,1,0,999;b300,1,0,999;b400,1,0,999;s1000,310;");
        DUE.is("a * D of round 2", two.balance(0), -10000000);
        DUE.is("b * D of round 2", two.balance(1), 240000);
        DUE.is("D of round 2", two.balance(2), 200000);
        KeelBlocks fallen = Plans.of("b100,1,0,999;b200,1,0,999;s1000,200;");
        DUE.is("a * D of none", fallen.balance(0), 0);
        DUE.is("b * D of none", fallen.balance(1), 0);
        DUE.is("D of none", fallen.balance(2), 0);
        KeelBlocks ring = Plans.of("b200,5,0,100;b200,5,0,100;b201,1,50,99999;b0,1,-50,99999;b400,1,-50,99999;s1,200;");
        DUE.is("a * D of a ring", ring.balance(0), 0);
        DUE.is("b * D of a ring", ring.balance(1), 0);
        DUE.is("D of a ring", ring.balance(2), 0);
        DUE.illegalArgument("what 3", () -> ring.balance(3));
        DUE.illegalArgument("what -1", () -> ring.balance(-1));
        DUE.illegalArgument("what 3 of a ship that stands", () -> two.balance(3));
        for (int far : FAR) {
            DUE.illegalArgument("far what", () -> two.balance(far));
        }
    }

    private static void promise13() {
        DUE.isDouble("nothing", new KeelBlocks().tilt(), 0.0);
        DUE.isDouble("level", Plans.of("b100,10,0,999;b300,10,0,999;").tilt(), 0.0);
        KeelBlocks two = Plans.of("b0,1,0,999;b100,1,0,999;b200,1,0,999;b300,1,0,999;b400,1,0,999;s1000,310;");
        DUE.isDouble("down to the right", two.tilt(), 1.2);
        two.setShip(1000, 90);
        DUE.isDouble("down to the left", two.tilt(), -1.2);
        two.setShip(1000, 201);
        DUE.isDouble("not rounded", two.tilt(), 5000.0 / 500000.0);
        DUE.isDouble("a ring", Plans.of(
                "b200,5,0,100;b200,5,0,100;b201,1,50,99999;b0,1,-50,99999;b400,1,-50,99999;s1,200;").tilt(), 0.0);
        DUE.isDouble("does not stand", Plans.of("b100,1,0,999;b200,1,0,999;s1000,201;").tilt(), 0.0);
    }

    private static void loadsAreRounded() {
        DUE.is("one more for the lower number", Plans.loads(Plans.of("b300,1,0,9;b200,1,0,9;b100,1,0,9;s1000,200;")),
                "334 333 333");
        DUE.is("two more for the lower numbers", Plans.loads(Plans.of("b300,1,0,9;b200,1,0,9;b100,1,0,9;s1001,200;")),
                "334 334 333");
        // forces 1000 * 3 / 10 and so on are whole, with 1003 they end in .9, .2 and .9
        DUE.is("the greatest fractions", Plans.loads(Plans.of("b200,4,0,9;b100,3,0,9;b300,3,0,9;s1003,200;")),
                "401 301 301");
        // five forces of 200.6; without block 3 they are 200.6, 229.257, 257.914 and 315.229
        KeelBlocks five = Plans.five(999, 999, 999);
        five.setShip(1003, 200);
        DUE.is("three more", Plans.loads(five), "201 201 201 200 200");
        DUE.is("greatest load", five.pull(3), 315);
        DUE.is("none for the one that is out", Plans.loads(five), "201 229 258 0 315");
        DUE.is("the greatest fraction has the highest number",
                Plans.loads(Plans.of("b100,3,0,9;b300,3,0,9;b200,4,0,9;s1001,200;")), "300 300 401");
    }

    private AnswersTest() {
    }
}
