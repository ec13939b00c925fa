import java.util.ArrayList;
import java.util.List;

/**
 * What "Terms" says a balance is: its sums and equations are worked out again from the answers of many docks, without
 * solving anything.
 */
final class BalanceTest {
    private static final Due DUE = new Due("BalanceTest");
    private static final int DOCKS = 400;

    /** All that a dock answers about how the ship stands on it. */
    private static final class Lie {
        final long weight;
        final long center;
        final long aTimesD;
        final long bTimesD;
        final long d;
        final long[][] blocks;

        Lie(KeelBlocks dock) {
            weight = dock.value(0);
            center = dock.value(1);
            aTimesD = dock.balance(0);
            bTimesD = dock.balance(1);
            d = dock.balance(2);
            blocks = new long[dock.value(2)][9];
            for (int i = 0; i < blocks.length; i++) {
                for (int what = 0; what < 9; what++) {
                    blocks[i][what] = dock.block(i, what);
                }
            }
        }

        long pressTimesD(long[] block) {
            return aTimesD + bTimesD * block[0] + d * block[2];
        }

        long forceTimesD(long[] block) {
            return block[1] * pressTimesD(block);
        }

        /** The sum of stiffness * place to a power over the blocks that bear, each times its cap if that is wanted. */
        long sum(int power, boolean timesCap) {
            long sum = 0;
            for (long[] block : bearing()) {
                long term = timesCap ? block[1] * block[2] : block[1];
                for (int i = 0; i < power; i++) {
                    term *= block[0];
                }
                sum += term;
            }
            return sum;
        }

        List<long[]> bearing() {
            List<long[]> list = new ArrayList<>();
            for (long[] block : blocks) {
                if (block[6] == 1) {
                    list.add(block);
                }
            }
            return list;
        }
    }

    private static long seed = 1;
    private static final List<Lie> LIES = lies();

    public static void main(String[] args) {
        DUE.each(BalanceTest.class);
        DUE.end();
    }

    private static int from(int least, int greatest) {
        seed = seed * 6364136223846793005L + 1442695040888963407L;
        return least + (int) ((seed >>> 33) % (greatest - least + 1));
    }

    private static List<Lie> lies() {
        List<Lie> list = new ArrayList<>();
        for (int i = 0; i < DOCKS; i++) {
            KeelBlocks dock = dock();
            if (dock.value(6) == 1) {
                list.add(new Lie(dock));
            }
        }
        return list;
    }

    private static KeelBlocks dock() {
        int stiffness = new int[] {1, 3, 100}[from(0, 2)];
        int cap = new int[] {0, 2, 50}[from(0, 2)];
        int step = new int[] {1, 50, 100}[from(0, 2)];
        KeelBlocks dock = new KeelBlocks();
        for (int blocks = from(3, 16); blocks > 0; blocks--) {
            dock.addBlock(step * from(0, 400 / step), from(1, stiffness), from(-cap, cap), from(200, 99999));
        }
        dock.setShip(from(1, new int[] {100, 5000, 100000}[from(0, 2)]), from(50, 350));
        dock.setLimit(0, 1);
        if (from(0, 1) == 0) {
            dock.cascade();
        }
        return dock;
    }

    private static void enoughDocks() {
        int lifted = 0;
        int crushed = 0;
        for (Lie lie : LIES) {
            for (long[] block : lie.blocks) {
                lifted += block[4] == 0 && block[6] == 0 ? 1 : 0;
                crushed += block[4] == 2 ? 1 : 0;
            }
        }
        DUE.is("many on which the ship stands", LIES.size() > DOCKS / 2, true);
        DUE.is("many blocks that stand and do not bear", lifted > 100, true);
        DUE.is("many blocks that are crushed", crushed > 100, true);
    }

    private static void pressAndForce() {
        DUE.sentence("Terms", "the press of a block is a + b * place + cap, and its force is stiffness * press.");
        for (Lie lie : LIES) {
            for (long[] block : lie.blocks) {
                boolean bears = block[4] == 0 && lie.pressTimesD(block) > 0;
                DUE.is("bears", block[6], bears ? 1 : 0);
                long force = bears ? lie.forceTimesD(block) / lie.d : 0;
                DUE.is("its force, or one more", block[5] == force || bears && block[5] == force + 1, true);
            }
        }
    }

    private static void sumOfForces() {
        DUE.sentence("Terms", "if the sum of the forces of the blocks of the set is the weight");
        for (Lie lie : LIES) {
            long sum = 0;
            for (long[] block : lie.bearing()) {
                sum += lie.forceTimesD(block);
            }
            DUE.is("forces", sum, lie.weight * lie.d);
        }
    }

    private static void sumOfMoments() {
        DUE.sentence("Terms", "and the sum of force * place is weight * (center of gravity).");
        for (Lie lie : LIES) {
            long sum = 0;
            for (long[] block : lie.bearing()) {
                sum += lie.forceTimesD(block) * block[0];
            }
            DUE.is("moments", sum, lie.weight * lie.center * lie.d);
        }
    }

    private static void sumsOfStiffness() {
        DUE.sentence("Terms", "With S0, S1 and S2 as the sums of stiffness, stiffness * place and "
                + "stiffness * place * place over the set, F as the weight minus the sum of stiffness * cap, "
                + "M as weight * center minus the sum of stiffness * cap * place, and D = S0 * S2 - S1 * S1");
        for (Lie lie : LIES) {
            DUE.is("D", lie.d, lie.sum(0, false) * lie.sum(2, false) - lie.sum(1, false) * lie.sum(1, false));
            DUE.is("D is above 0", lie.d > 0, true);
        }
    }

    private static void weightAndMomentLessTheCaps() {
        DUE.sentence("Terms", "F as the weight minus the sum of stiffness * cap, "
                + "M as weight * center minus the sum of stiffness * cap * place");
        for (Lie lie : LIES) {
            long f = lie.weight - lie.sum(0, true);
            long m = lie.weight * lie.center - lie.sum(1, true);
            DUE.is("a * D", lie.aTimesD, f * lie.sum(2, false) - m * lie.sum(1, false));
            DUE.is("b * D", lie.bTimesD, m * lie.sum(0, false) - f * lie.sum(1, false));
        }
    }

    private static void weightThatIsLeft() {
        DUE.sentence("Terms", "plus 1 for some: with r as the weight minus the sum of the rounded forces");
        for (Lie lie : LIES) {
            long r = lie.weight;
            long loads = 0;
            int more = 0;
            for (long[] block : lie.bearing()) {
                long rounded = lie.forceTimesD(block) / lie.d;
                r -= rounded;
                loads += block[5];
                more += block[5] > rounded ? 1 : 0;
            }
            DUE.is("blocks with one more", more, r);
            DUE.is("the loads together are the weight", loads, lie.weight);
        }
    }

    private static void orderOfTheFractions() {
        DUE.sentence("Terms", "(equal fractions: the lower numbers first)");
        for (Lie lie : LIES) {
            List<long[]> bearing = lie.bearing();
            boolean inOrder = true;
            for (int i = 0; i < bearing.size(); i++) {
                for (int j = 0; j < bearing.size(); j++) {
                    inOrder &= !hasMore(lie, bearing.get(j)) || hasMore(lie, bearing.get(i))
                            || cutOff(lie, bearing.get(i)) < cutOff(lie, bearing.get(j))
                            || cutOff(lie, bearing.get(i)) == cutOff(lie, bearing.get(j)) && j < i;
                }
            }
            DUE.is("none that should come first is left out", inOrder, true);
        }
    }

    private static boolean hasMore(Lie lie, long[] block) {
        return block[5] > lie.forceTimesD(block) / lie.d;
    }

    private static long cutOff(Lie lie, long[] block) {
        return lie.forceTimesD(block) % lie.d;
    }

    private BalanceTest() {
    }
}
