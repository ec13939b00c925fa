import java.util.ArrayList;
import java.util.List;

/**
 * Runs of calls on the program and on the model, which must answer alike. The calls come from a row of numbers that is
 * the same each time.
 */
final class ModelTest {
    private static final int RUNS = 120;
    private static final int CALLS = 120;
    /** The document says nothing of an object behind this call. */
    private static final int LAST_CALL = 512;

    private final Due due = new Due("ModelTest");
    private final List<String> calls = new ArrayList<>();
    private long seed;
    private int made;
    private KeelBlocks program;
    private Model model;

    public static void main(String[] args) {
        ModelTest test = new ModelTest();
        for (int run = 0; run < RUNS && test.due.wrong() == 0; run++) {
            test.run(run);
        }
        test.due.end();
    }

    private int next(int bound) {
        seed = seed * 6364136223846793005L + 1442695040888963407L;
        return (int) ((seed >>> 33) % bound);
    }

    private int from(int least, int greatest) {
        return least + next(greatest - least + 1);
    }

    /** A number of a range, now and then one of its ends or one just outside it. */
    private int near(int least, int greatest) {
        int choice = next(40);
        if (choice == 0) {
            return least - 1;
        }
        if (choice == 1) {
            return greatest + 1;
        }
        if (choice == 2) {
            return least;
        }
        return choice == 3 ? greatest : from(least, greatest);
    }

    private void run(int number) {
        seed = number;
        calls.clear();
        made = 0;
        program = new KeelBlocks();
        model = new Model();
        int limits = new int[] {300, 2000, 20000, 99999}[next(4)];
        int caps = new int[] {0, 3, 20, 50}[next(4)];
        int weights = new int[] {50, 1000, 10000, 100000}[next(4)];
        boolean narrow = next(4) == 0;
        if (next(3) != 0) {
            enter(planText(from(2, 16), caps, limits, narrow));
        }
        for (int call = 0; call < CALLS && due.wrong() == 0; call++) {
            if (next(3) != 0) {
                change(caps, limits, weights, narrow);
            } else {
                ask();
            }
            if (next(4) == 0) {
                compareState();
            }
        }
        compareState();
        if (due.wrong() != 0) {
            System.out.println("run " + number + ": " + calls);
        }
    }

    private String planText(int blocks, int caps, int limits, boolean narrow) {
        StringBuilder plan = new StringBuilder();
        for (int i = 0; i < blocks; i++) {
            plan.append('b').append(place(narrow)).append(',').append(from(1, 100)).append(',');
            plan.append(from(-caps, caps)).append(',').append(from(1, limits)).append(';');
            if (next(6) == 0) {
                plan.append('s').append(from(1, 100000)).append(',').append(from(0, 400)).append(';');
            }
        }
        return plan.toString();
    }

    private int place(boolean narrow) {
        return narrow ? from(199, 201) : near(0, 400);
    }

    private int someBlock() {
        return from(-1, 12) + (next(4) == 0 ? 4 : 0);
    }

    private void same(String call, Due.Call answer, Due.Call want) {
        if (!mayMake(1)) {
            return;
        }
        calls.add(call);
        due.compare(call, Due.outcome(answer), Due.outcome(want));
    }

    /** Counts calls of the program; answers false if there are no more to be made. */
    private boolean mayMake(int more) {
        made += more;
        return made <= LAST_CALL;
    }

    private void change(int caps, int limits, int weights, boolean narrow) {
        int b = someBlock();
        switch (next(13)) {
            case 0, 1, 2 -> add(place(narrow), near(1, 100), near(-caps, caps), near(1, limits));
            case 3 -> {
                int cap = near(-50, 50);
                same("setCap(" + b + ", " + cap + ")", () -> program.setCap(b, cap), () -> model.setCap(b, cap));
            }
            case 4 -> {
                int limit = next(8) == 0 ? near(1, 99999) : near(1, limits);
                same("setLimit(" + b + ", " + limit + ")",
                        () -> program.setLimit(b, limit), () -> model.setLimit(b, limit));
            }
            case 5, 6 -> {
                int weight = next(8) == 0 ? near(1, 100000) : near(1, weights);
                int center = near(0, 400);
                same("setShip(" + weight + ", " + center + ")",
                        () -> program.setShip(weight, center), () -> model.setShip(weight, center));
            }
            case 7 -> same("pull(" + b + ")", () -> program.pull(b), () -> model.pull(b));
            case 8 -> same("put(" + b + ")", () -> program.put(b), () -> model.put(b));
            case 9 -> same("cascade()", () -> program.cascade(), () -> model.cascade());
            case 10 -> same("shave()", () -> program.shave(), () -> model.shave());
            case 11 -> same("undo()", () -> program.undo(), () -> model.undo());
            default -> changeText(caps, limits, narrow);
        }
    }

    private void add(int place, int stiffness, int cap, int limit) {
        same("addBlock(" + place + ", " + stiffness + ", " + cap + ", " + limit + ")",
                () -> program.addBlock(place, stiffness, cap, limit),
                () -> model.addBlock(place, stiffness, cap, limit));
    }

    private void ask() {
        int b = someBlock();
        switch (next(10)) {
            case 0 -> {
                int pulled = someBlock();
                same("loadWithout(" + b + ", " + pulled + ")",
                        () -> program.loadWithout(b, pulled), () -> model.loadWithout(b, pulled));
            }
            case 1 -> same("pullable()", () -> program.pullable(), () -> model.pullable());
            case 2 -> same("cascadeSteps()", () -> program.cascadeSteps(), () -> model.cascadeSteps());
            case 3 -> same("survives()", () -> program.survives() ? 1 : 0, () -> model.survives() ? 1 : 0);
            case 4 -> same("shavingSteps()", () -> program.shavingSteps(), () -> model.shavingSteps());
            case 5 -> same("greatestWeight()", () -> program.greatestWeight(), () -> model.greatestWeight());
            case 6 -> same("bestCenter()", () -> program.bestCenter(), () -> model.bestCenter());
            case 7 -> {
                int stiffness = near(1, 100);
                same("bestPlace(" + stiffness + ")",
                        () -> program.bestPlace(stiffness), () -> model.bestPlace(stiffness));
            }
            case 8 -> {
                int what = from(-1, 9);
                same("block(" + b + ", " + what + ")", () -> program.block(b, what), () -> model.block(b, what));
            }
            default -> {
                int what = from(-1, 10);
                same("value(" + what + ")", () -> program.value(what), () -> model.value(what));
                same("balance(" + what + ")", () -> program.balance(what), () -> model.balance(what));
            }
        }
    }

    private void changeText(int caps, int limits, boolean narrow) {
        StringBuilder plan = new StringBuilder(planText(next(5), caps, limits, narrow));
        if (next(20) == 0) {
            for (int i = from(15, 17); i > 0; i--) {
                plan.insert(0, "b" + next(10) + ",1,0,1;");
            }
        }
        for (int faults = next(3); faults > 0 && plan.length() > 0; faults--) {
            int at = next(plan.length());
            char sign = "bs,;-0123456789 x".charAt(next(17));
            switch (next(4)) {
                case 0 -> plan.setCharAt(at, sign);
                case 1 -> plan.insert(at, sign);
                case 2 -> plan.deleteCharAt(at);
                default -> plan.setLength(at);
            }
        }
        same("clearText()", () -> program.clearText(), () -> model.clearText());
        enter(plan.toString());
        if (next(10) == 0) {
            int odd = from(-1, 128);
            same("append(" + odd + ")", () -> program.append(odd), () -> model.append(odd));
        }
    }

    private void enter(String plan) {
        for (int i = 0; i < plan.length(); i++) {
            int value = plan.charAt(i);
            same("append(" + value + ")", () -> program.append(value), () -> model.append(value));
        }
        same("parse()", () -> program.parse(), () -> model.parse());
    }

    private void compareState() {
        if (!mayMake(2)) {
            return;
        }
        due.is("digest()", program.digest(), model.digest());
        due.isDouble("tilt()", program.tilt(), model.tilt());
    }
}
