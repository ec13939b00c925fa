/** Promises 14 to 21: the what-if questions, none of which changes anything. */
final class WhatIfTest {
    private static final Due DUE = new Due("WhatIfTest");
    private static final int[] FAR = {Integer.MIN_VALUE, Integer.MAX_VALUE};

    private static final String[] PLANS = {"b190,1,0,9;b330,1,0,9;s29,190;", "b100,1,0,9;b180,1,0,9;s8,170;",
        "b0,1,20,9;b210,9,-10,9;b390,30,0,9;s500,220;", "b100,1,0,9;b300,1,0,9;s1,200;", "b20,90,0,9;s70000,41;"};

    public static void main(String[] args) {
        promise14();
        promise15();
        promise16And17();
        promise18();
        promise19();
        promise20();
        promise21();
        nothingChanges();
        nothingLingers();
        DUE.end();
    }

    private static void promise14() {
        KeelBlocks dock = Plans.of("b100,1,0,500;b200,1,0,1;b300,1,0,1;b0,50,0,1;s900,200;");
        DUE.is("in no way overloaded", dock.loadWithout(0, 3), 300);
        DUE.is("the pulled one", dock.loadWithout(3, 3), 0);
        KeelBlocks three = Plans.of("b100,1,0,500;b200,1,0,500;b300,1,0,1;s900,200;");
        DUE.is("an overload does not matter", three.loadWithout(2, 1), 450);
        DUE.is("the pulled one in the middle", three.loadWithout(1, 1), 0);
        DUE.is("would not stand", three.loadWithout(1, 0), KeelBlocks.NONE);
        DUE.is("would not stand, the pulled one", three.loadWithout(0, 0), KeelBlocks.NONE);
        three.setLimit(2, 500);
        three.pull(1);
        DUE.is("pulled out already", three.loadWithout(0, 1), 450);
        DUE.is("one that is out", three.loadWithout(1, 1), 0);
        KeelBlocks fallen = Plans.five(500, 200, 199);
        fallen.cascade();
        DUE.is("crushed already", fallen.loadWithout(4, 2), 500);
        DUE.is("a crushed one", fallen.loadWithout(2, 3), 0);
        DUE.is("without an outer one", fallen.loadWithout(2, 4), KeelBlocks.NONE);
        DUE.outOfBounds("no block 5", () -> fallen.loadWithout(5, 0));
        DUE.outOfBounds("no block 5 to pull", () -> fallen.loadWithout(0, 5));
        DUE.outOfBounds("no block -1", () -> fallen.loadWithout(-1, 0));
        DUE.outOfBounds("no block -1 to pull", () -> fallen.loadWithout(0, -1));
        for (int far : FAR) {
            DUE.outOfBounds("far block", () -> fallen.loadWithout(far, 0));
            DUE.outOfBounds("far pulled", () -> fallen.loadWithout(0, far));
        }
    }

    private static void promise15() {
        DUE.is("nothing", new KeelBlocks().pullable(), 0);
        DUE.is("two are needed", Plans.of("b100,1,0,999;b300,1,0,999;").pullable(), 0);
        DUE.is("any of five", Plans.five(999, 999, 999).pullable(), 5);
        // without 0 the loads of the others are 400, 300, 200 and 100, without 1 some 314, 257, 229 and 200
        KeelBlocks dock = Plans.five(400, 300, 300);
        int pulled = 0;
        for (int i = 0; i < 5; i++) {
            try {
                dock.pull(i);
                dock.undo();
                pulled++;
            } catch (IllegalStateException e) {
                DUE.is("refused block is an outer one", i == 0 || i == 4, true);
            }
        }
        DUE.is("as many as pull() pulls", dock.pullable(), pulled);
        DUE.is("the inner ones", dock.pullable(), 3);
        dock.pull(2);
        // without 1 the loads of 0, 3 and 4 are some 423, 308 and 269
        DUE.is("none any more", dock.pullable(), 0);
        KeelBlocks over = Plans.of("b0,1,0,999;b200,1,0,1;b400,1,0,999;");
        DUE.is("the overloaded one", over.pullable(), 1);
    }

    private static void promise16And17() {
        KeelBlocks safe = Plans.five(200, 200, 200);
        DUE.is("no step", safe.cascadeSteps(), 0);
        DUE.is("stands", safe.survives(), true);
        KeelBlocks two = Plans.five(500, 249, 199);
        DUE.is("two steps", two.cascadeSteps(), 2);
        DUE.is("stands on two", two.survives(), true);
        KeelBlocks three = Plans.five(499, 249, 199);
        DUE.is("three steps", three.cascadeSteps(), 3);
        DUE.is("falls", three.survives(), false);
        DUE.is("no step of none", new KeelBlocks().cascadeSteps(), 0);
        DUE.is("none falls", new KeelBlocks().survives(), false);
        KeelBlocks one = Plans.five(1, 1, 1);
        DUE.is("one step for all", one.cascadeSteps(), 1);
        DUE.is("all fall", one.survives(), false);
    }

    private static void promise18() {
        DUE.is("nothing", new KeelBlocks().shavingSteps(), -1000);
        DUE.is("no step", Plans.five(200, 200, 200).shavingSteps(), 0);
        KeelBlocks three = Plans.of("b0,10,0,999;b100,10,0,999;b200,10,0,180;b300,10,0,999;b400,10,0,999;");
        DUE.is("three steps", three.shavingSteps(), 3);
        DUE.is("down to -50", Plans.of("b100,1,0,400;b300,1,0,400;").shavingSteps(), -1050);
        DUE.is("down to -50, a hundred steps", Plans.of("b100,1,50,400;b300,1,50,400;").shavingSteps(), -1100);
        DUE.is("at -50", Plans.of("b100,1,-50,400;b300,1,50,401;").shavingSteps(), -1000);
        DUE.is("a hundred steps", Plans.of("b100,1,50,100;b200,1,50,100;b300,1,50,100;").shavingSteps(), -1100);
        // the load is 240 - 4/5 * steps: 161.6 (162 as it is rounded), 160.8 (161), 160 with 98, 99 and 100 steps
        String around = ";b0,1,0,999;b100,1,0,999;b300,1,0,999;b400,1,0,999;";
        DUE.is("99 steps", Plans.of("b200,1,50,161" + around).shavingSteps(), 99);
        DUE.is("100 steps, and it is good", Plans.of("b200,1,50,160" + around).shavingSteps(), 100);
        DUE.is("it would be 101 steps", Plans.of("b200,1,50,159" + around).shavingSteps(), -1100);
    }

    private static void promise19() {
        DUE.is("nothing", new KeelBlocks().greatestWeight(), KeelBlocks.NONE);
        DUE.is("all", Plans.of("b100,1,0,50000;b300,1,0,50000;").greatestWeight(), 100000);
        DUE.is("not all", Plans.of("b100,1,0,49999;b300,1,0,50000;").greatestWeight(), 99000);
        DUE.is("the least", Plans.of("b100,1,0,999;b300,1,0,999;").greatestWeight(), 1000);
        DUE.is("less than the least", Plans.of("b100,1,0,499;b300,1,0,999;").greatestWeight(), KeelBlocks.NONE);
        DUE.is("the present center", Plans.of("b100,1,0,750;b300,1,0,1250;s9,250;").greatestWeight(), 1000);
        DUE.is("beside the blocks", Plans.of("b100,1,0,999;b300,1,0,999;s9,300;").greatestWeight(),
                KeelBlocks.NONE);
        // up to 5000 the ship rocks on the middle; with 6000 the loads are 334, 5333 and 333
        String high = "b100,100,0,999;b300,100,0,999;b200,100,50,";
        DUE.is("lesser weights do not stand", Plans.of(high + "5333;").greatestWeight(), 6000);
        DUE.is("not even this one", Plans.of(high + "5332;").greatestWeight(), KeelBlocks.NONE);
    }

    private static void promise20() {
        DUE.is("nothing", new KeelBlocks().bestCenter(), KeelBlocks.NONE);
        DUE.is("one place", Plans.of("b100,1,0,9;b100,1,0,9;").bestCenter(), KeelBlocks.NONE);
        DUE.is("the middle, overloads or not", Plans.of("b100,1,0,9;b300,1,0,9;").bestCenter(), 200);
        DUE.is("the lowest of several", Plans.of("b100,1,0,9;b300,1,0,9;s1,400;").bestCenter(), 105);
        DUE.is("steps of 5", Plans.of("b0,1,0,9;b11,1,0,9;").bestCenter(), 5);
        DUE.is("no center of the five between them", Plans.of("b396,1,0,9;b399,1,0,9;").bestCenter(), KeelBlocks.NONE);
        // with the center 400 all would be on one place, so 395 is the last center with which a ship stands
        DUE.is("395", Plans.of("b394,1,0,9;b396,1,0,9;").bestCenter(), 395);
        // the loads are 250, 500 and 250 with the center 200, but 500, 500 and 0 with 100 already
        for (String plan : PLANS) {
            DUE.is("best center of " + plan, Plans.of(plan).bestCenter(), triedCenter(plan));
        }
        DUE.is("of several the lowest, with three", Plans.of("b0,1,0,9;b200,2,0,9;b400,1,0,9;").bestCenter(), 100);
    }

    private static void promise21() {
        DUE.is("nothing", new KeelBlocks().bestPlace(5), KeelBlocks.NONE);
        // the shares are (p - 210) / (p - 200) on the block and 10 / (p - 200) on the new one
        DUE.is("beside one block", Plans.of("b200,10,0,9;s1000,210;").bestPlace(5), 220);
        DUE.is("its own load included", Plans.of("b200,10,0,9;s1000,215;").bestPlace(5), 230);
        DUE.is("the lowest of several", Plans.of("b200,10,0,9;s1,210;").bestPlace(5), 220);
        DUE.is("place 0", Plans.of("b10,10,0,9;s1000,5;").bestPlace(5), 0);
        DUE.is("place 400", Plans.of("b390,10,0,9;s1000,395;").bestPlace(5), 400);
        DUE.is("no place", Plans.of("b200,10,0,9;s1000,200;").bestPlace(5), KeelBlocks.NONE);
        DUE.is("only places of ten", Plans.of("b391,10,0,9;s1000,400;").bestPlace(5), KeelBlocks.NONE);
        // with the cap 0 it is far below the others, and bears only where the keel bends down
        KeelBlocks high = Plans.of("b0,1,50,9;b100,1,50,9;s10,10;");
        DUE.is("too low to bear", high.bestPlace(1), 0);
        // with the cap -1 it would be 30, with the cap 1 it would be 0
        DUE.is("the cap is 0", Plans.of("b190,1,0,9;b330,1,0,9;s29,190;").bestPlace(5), 40);
        for (String plan : PLANS) {
            DUE.is("best place of " + plan, Plans.of(plan).bestPlace(3), triedPlace(plan, 3));
        }
        KeelBlocks full = Plans.full();
        DUE.is("sixteen blocks", full.bestPlace(1), KeelBlocks.NONE);
        DUE.illegalArgument("the argument comes first", () -> full.bestPlace(0));
        full.undo();
        DUE.is("fifteen blocks", full.bestPlace(100) >= 0, true);
        DUE.illegalArgument("stiffness 0", () -> high.bestPlace(0));
        DUE.illegalArgument("stiffness 101", () -> high.bestPlace(101));
        for (int far : FAR) {
            DUE.illegalArgument("far stiffness", () -> high.bestPlace(far));
        }
    }

    /** The best place as it is found by blocks that are really added. */
    private static int triedPlace(String plan, int stiffness) {
        int best = KeelBlocks.NONE;
        int least = Integer.MAX_VALUE;
        for (int place = 0; place <= 400; place += 10) {
            KeelBlocks dock = Plans.of(plan);
            dock.addBlock(place, stiffness, 0, 1);
            if (dock.value(6) == 1 && dock.value(8) < least) {
                best = place;
                least = dock.value(8);
            }
        }
        return best;
    }

    /** The best center as it is found by ships that are really set. */
    private static int triedCenter(String plan) {
        int best = KeelBlocks.NONE;
        int least = Integer.MAX_VALUE;
        for (int center = 0; center <= 400; center += 5) {
            KeelBlocks dock = Plans.of(plan);
            dock.setShip(dock.value(0), center);
            if (dock.value(6) == 1 && dock.value(8) < least) {
                best = center;
                least = dock.value(8);
            }
        }
        return best;
    }

    /** No call takes up what a question or a refused call has tried before. */
    private static void nothingLingers() {
        Asked[] asked = {d -> d.setCap(1, 2), d -> d.setLimit(1, 2), d -> d.setShip(900, 205), d -> d.pull(1),
            d -> d.addBlock(50, 5, 5, 5), d -> d.cascade(), d -> d.shave(), d -> d.parse(), d -> d.undo(),
            d -> d.loadWithout(0, 1), d -> d.pullable(), d -> d.cascadeSteps(), d -> d.survives() ? 1 : 0,
            d -> d.shavingSteps(), d -> d.greatestWeight(), d -> d.bestCenter(), d -> d.bestPlace(7)};
        for (int i = 0; i < asked.length; i++) {
            for (int middle = 150; middle <= 350; middle += 100) {
                KeelBlocks plain = Plans.five(450, 300, middle);
                KeelBlocks spoilt = Plans.five(450, 300, middle);
                Plans.enter(plain, "b100,1,0,9;b300,1,0,9;");
                spoil(spoilt);
                Plans.enter(spoilt, "b100,1,0,9;b300,1,0,9;");
                Asked call = asked[i];
                DUE.is("call " + i + " behind others",
                        Due.outcome(() -> call.of(spoilt)), Due.outcome(() -> call.of(plain)));
                DUE.is("state behind call " + i, Plans.state(spoilt), Plans.state(plain));
            }
        }
        KeelBlocks crushed = Plans.five(1, 1, 1);
        crushed.cascade();
        crushed.greatestWeight();
        KeelBlocks standing = Plans.five(999, 999, 999);
        standing.greatestWeight();
        standing.loadWithout(0, 0);
        DUE.is("survives", standing.survives(), true);
        crushed.bestPlace(1);
        crushed.put(1);
        DUE.is("one block is back", crushed.value(3), 1);
    }

    private static void spoil(KeelBlocks dock) {
        Plans.enter(dock, "s77,77;b1,1,1,1;b");
        dock.parse();
        dock.bestPlace(9);
        dock.greatestWeight();
        dock.shavingSteps();
        dock.bestCenter();
        try {
            dock.pull(0);
            dock.undo();
            DUE.is("the outer block is pulled", true, false);
        } catch (IllegalStateException e) {
            DUE.is("the outer block is refused", dock.value(3), 5);
        }
    }

    private interface Asked {
        int of(KeelBlocks dock);
    }

    private static void nothingChanges() {
        KeelBlocks[] docks = {new KeelBlocks(), Plans.five(499, 249, 199), Plans.full(),
            Plans.of("b100,1,50,100;b200,1,50,100;b300,1,50,100;")};
        for (KeelBlocks dock : docks) {
            String before = Plans.state(dock);
            dock.pullable();
            dock.cascadeSteps();
            dock.survives();
            dock.shavingSteps();
            dock.greatestWeight();
            dock.bestCenter();
            dock.bestPlace(100);
            if (dock.value(2) > 1) {
                dock.loadWithout(0, 1);
            }
            dock.tilt();
            DUE.is("the questions change nothing", Plans.state(dock), before);
        }
    }

    private WhatIfTest() {
    }
}
