import java.math.BigInteger;
import java.util.ArrayDeque;
import java.util.ArrayList;
import java.util.Deque;
import java.util.List;
import java.util.TreeSet;
import java.util.regex.Matcher;
import java.util.regex.Pattern;

/**
 * The document once more, in other means than the program's: reduced fractions without a bound, sorted lists, regular
 * expressions. ModelTest compares the program with it.
 */
final class Model {
    /** A reduced fraction. */
    record Fraction(BigInteger above, BigInteger below) implements Comparable<Fraction> {
        static Fraction of(long number) {
            return new Fraction(BigInteger.valueOf(number), BigInteger.ONE);
        }

        static Fraction reduced(BigInteger above, BigInteger below) {
            BigInteger common = above.gcd(below);
            BigInteger divisor = below.signum() < 0 ? common.negate() : common;
            return new Fraction(above.divide(divisor), below.divide(divisor));
        }

        Fraction plus(Fraction o) {
            return reduced(above.multiply(o.below).add(o.above.multiply(below)), below.multiply(o.below));
        }

        Fraction minus(Fraction o) {
            return plus(new Fraction(o.above.negate(), o.below));
        }

        Fraction times(Fraction o) {
            return reduced(above.multiply(o.above), below.multiply(o.below));
        }

        Fraction over(Fraction o) {
            return reduced(above.multiply(o.below), below.multiply(o.above));
        }

        BigInteger floor() {
            BigInteger[] parts = above.divideAndRemainder(below);
            return parts[1].signum() < 0 ? parts[0].subtract(BigInteger.ONE) : parts[0];
        }

        int signum() {
            return above.signum();
        }

        @Override
        public int compareTo(Fraction o) {
            return above.multiply(o.below).compareTo(o.above.multiply(below));
        }
    }

    record Block(int place, int stiffness, int cap, int limit, int state, int shaved) {
        Block withCap(int newCap) {
            return new Block(place, stiffness, newCap, limit, state, shaved);
        }

        Block withLimit(int newLimit) {
            return new Block(place, stiffness, cap, newLimit, state, shaved);
        }

        Block withState(int newState) {
            return new Block(place, stiffness, cap, limit, newState, shaved);
        }

        Block shavedOnce() {
            return new Block(place, stiffness, cap - 1, limit, state, shaved + 1);
        }
    }

    record Plan(List<Block> blocks, int weight, int center) {
        Plan with(int number, Block block) {
            List<Block> changed = new ArrayList<>(blocks);
            changed.set(number, block);
            return new Plan(changed, weight, center);
        }

        Plan plus(Block block) {
            List<Block> changed = new ArrayList<>(blocks);
            changed.add(block);
            return new Plan(changed, weight, center);
        }

        Plan ship(int newWeight, int newCenter) {
            return new Plan(blocks, newWeight, newCenter);
        }

        TreeSet<Integer> standing() {
            TreeSet<Integer> set = new TreeSet<>();
            for (int i = 0; i < blocks.size(); i++) {
                if (blocks.get(i).state() == 0) {
                    set.add(i);
                }
            }
            return set;
        }
    }

    /** The balance of a plan. */
    static final class Lie {
        final Plan plan;
        boolean stands = false;
        int rounds = 0;
        TreeSet<Integer> bearing = new TreeSet<>();
        Fraction a;
        Fraction b;
        Fraction d;
        final int[] loads;

        Lie(Plan plan) {
            this.plan = plan;
            this.loads = new int[plan.blocks().size()];
            TreeSet<Integer> set = plan.standing();
            while (rounds < 30 && !stands) {
                rounds++;
                if (!solve(set)) {
                    return;
                }
                TreeSet<Integer> next = new TreeSet<>();
                for (int i : plan.standing()) {
                    if (press(i).signum() > 0) {
                        next.add(i);
                    }
                }
                stands = next.equals(set);
                set = next;
            }
            if (stands) {
                bearing = set;
                share();
            }
        }

        private boolean solve(TreeSet<Integer> set) {
            Fraction s0 = Fraction.of(0);
            Fraction s1 = Fraction.of(0);
            Fraction s2 = Fraction.of(0);
            Fraction f = Fraction.of(plan.weight());
            Fraction m = Fraction.of((long) plan.weight() * plan.center());
            for (int i : set) {
                Block block = plan.blocks().get(i);
                Fraction k = Fraction.of(block.stiffness());
                Fraction p = Fraction.of(block.place());
                Fraction c = Fraction.of(block.cap());
                s0 = s0.plus(k);
                s1 = s1.plus(k.times(p));
                s2 = s2.plus(k.times(p).times(p));
                f = f.minus(k.times(c));
                m = m.minus(k.times(c).times(p));
            }
            d = s0.times(s2).minus(s1.times(s1));
            if (d.signum() == 0) {
                return false;
            }
            a = f.times(s2).minus(m.times(s1)).over(d);
            b = m.times(s0).minus(f.times(s1)).over(d);
            return true;
        }

        private Fraction press(int i) {
            Block block = plan.blocks().get(i);
            return a.plus(b.times(Fraction.of(block.place()))).plus(Fraction.of(block.cap()));
        }

        private Fraction force(int i) {
            return press(i).times(Fraction.of(plan.blocks().get(i).stiffness()));
        }

        private void share() {
            int rest = plan.weight();
            for (int i : bearing) {
                loads[i] = force(i).floor().intValueExact();
                rest -= loads[i];
            }
            List<Integer> order = new ArrayList<>(bearing);
            // the sort is stable, so equal fractions stay in the order of their numbers
            order.sort((x, y) -> cutOff(y).compareTo(cutOff(x)));
            for (int i = 0; i < rest; i++) {
                loads[order.get(i)]++;
            }
        }

        private Fraction cutOff(int i) {
            return force(i).minus(new Fraction(force(i).floor(), BigInteger.ONE));
        }

        List<Integer> overloaded() {
            List<Integer> list = new ArrayList<>();
            for (int i : bearing) {
                if (loads[i] > plan.blocks().get(i).limit()) {
                    list.add(i);
                }
            }
            return list;
        }

        boolean good() {
            return stands && overloaded().isEmpty();
        }

        int greatest() {
            int greatest = 0;
            for (int load : loads) {
                greatest = Math.max(greatest, load);
            }
            return greatest;
        }
    }

    /** What a row of steps leads to. */
    record Result(Plan plan, int steps) {
    }

    private static final Pattern TEXT =
            Pattern.compile("(b\\d{1,3},\\d{1,3},-?\\d{1,2},\\d{1,5};|s\\d{1,6},\\d{1,3};)*");

    private Plan plan = new Plan(List.of(), 1000, 200);
    private String text = "";
    private final Deque<Plan> saved = new ArrayDeque<>();

    private Lie now() {
        return new Lie(plan);
    }

    private void keep(Plan next) {
        saved.addLast(plan);
        if (saved.size() > 4) {
            saved.removeFirst();
        }
        plan = next;
    }

    private static void argument(boolean fine) {
        if (!fine) {
            throw new IllegalArgumentException();
        }
    }

    private static void state(boolean fine) {
        if (!fine) {
            throw new IllegalStateException();
        }
    }

    private Block at(int number) {
        if (number < 0 || number >= plan.blocks().size()) {
            throw new IndexOutOfBoundsException();
        }
        return plan.blocks().get(number);
    }

    private static boolean in(int number, int least, int greatest) {
        return least <= number && number <= greatest;
    }

    int addBlock(int place, int stiffness, int cap, int limit) {
        argument(in(place, 0, 400) && in(stiffness, 1, 100) && in(cap, -50, 50) && in(limit, 1, 99999));
        state(plan.blocks().size() < 16);
        keep(plan.plus(new Block(place, stiffness, cap, limit, 0, 0)));
        return plan.blocks().size() - 1;
    }

    int setCap(int block, int cap) {
        Block before = at(block);
        argument(in(cap, -50, 50));
        keep(plan.with(block, before.withCap(cap)));
        return before.cap();
    }

    int setLimit(int block, int limit) {
        Block before = at(block);
        argument(in(limit, 1, 99999));
        keep(plan.with(block, before.withLimit(limit)));
        return before.limit();
    }

    int setShip(int weight, int center) {
        argument(in(weight, 1, 100000) && in(center, 0, 400));
        int before = plan.weight();
        keep(plan.ship(weight, center));
        return before;
    }

    int pull(int block) {
        Block before = at(block);
        state(before.state() == 0);
        Plan next = plan.with(block, before.withState(1));
        Lie lie = new Lie(next);
        state(lie.good());
        keep(next);
        return lie.greatest();
    }

    int put(int block) {
        Block before = at(block);
        state(before.state() != 0);
        keep(plan.with(block, before.withState(0)));
        Lie lie = now();
        return lie.stands ? lie.loads[block] : -1;
    }

    private Result cascaded() {
        Plan next = plan;
        int steps = 0;
        for (List<Integer> over = new Lie(next).overloaded(); !over.isEmpty(); over = new Lie(next).overloaded()) {
            for (int i : over) {
                next = next.with(i, next.blocks().get(i).withState(2));
            }
            steps++;
        }
        return new Result(next, steps);
    }

    private Result shaven() {
        Plan next = plan;
        int steps = 0;
        while (steps < 100) {
            Lie lie = new Lie(next);
            List<Integer> over = lie.overloaded();
            if (over.isEmpty()) {
                break;
            }
            List<Block> blocks = next.blocks();
            over.sort((x, y) -> {
                int excessX = lie.loads[x] - blocks.get(x).limit();
                int excessY = lie.loads[y] - blocks.get(y).limit();
                return excessX != excessY ? excessY - excessX : x - y;
            });
            int worst = over.get(0);
            if (blocks.get(worst).cap() == -50) {
                break;
            }
            next = next.with(worst, blocks.get(worst).shavedOnce());
            steps++;
        }
        return new Result(next, steps);
    }

    int cascade() {
        int before = plan.standing().size();
        keep(cascaded().plan());
        return before - plan.standing().size();
    }

    int shave() {
        Result result = shaven();
        keep(result.plan());
        return result.steps();
    }

    int block(int block, int what) {
        Block it = at(block);
        argument(in(what, 0, 8));
        Lie lie = now();
        int[] answers = {it.place(), it.stiffness(), it.cap(), it.limit(), it.state(), lie.loads[block],
            lie.bearing.contains(block) ? 1 : 0, lie.overloaded().contains(block) ? 1 : 0, it.shaved()};
        return answers[what];
    }

    int value(int what) {
        argument(in(what, 0, 9));
        Lie lie = now();
        int first = -1;
        for (int i = lie.loads.length - 1; i >= 0 && lie.stands; i--) {
            first = lie.loads[i] == lie.greatest() ? i : first;
        }
        int[] answers = {plan.weight(), plan.center(), plan.blocks().size(), plan.standing().size(),
            lie.bearing.size(), lie.overloaded().size(), lie.stands ? 1 : 0, lie.rounds, lie.greatest(), first};
        return answers[what];
    }

    long balance(int what) {
        argument(in(what, 0, 2));
        Lie lie = now();
        if (!lie.stands) {
            return 0;
        }
        Fraction[] answers = {lie.a.times(lie.d), lie.b.times(lie.d), lie.d};
        return answers[what].floor().longValueExact();
    }

    double tilt() {
        return now().stands ? (double) balance(1) / (double) balance(2) : 0.0;
    }

    int loadWithout(int block, int pulled) {
        at(block);
        Lie lie = new Lie(plan.with(pulled, at(pulled).withState(1)));
        return lie.stands ? lie.loads[block] : -1;
    }

    int pullable() {
        int count = 0;
        for (int i : plan.standing()) {
            count += new Lie(plan.with(i, at(i).withState(1))).good() ? 1 : 0;
        }
        return count;
    }

    int cascadeSteps() {
        return cascaded().steps();
    }

    boolean survives() {
        return new Lie(cascaded().plan()).stands;
    }

    int shavingSteps() {
        Result result = shaven();
        return new Lie(result.plan()).good() ? result.steps() : -1000 - result.steps();
    }

    int greatestWeight() {
        int greatest = -1;
        for (int weight = 1000; weight <= 100000; weight += 1000) {
            greatest = new Lie(plan.ship(weight, plan.center())).good() ? weight : greatest;
        }
        return greatest;
    }

    int bestCenter() {
        int best = -1;
        int least = Integer.MAX_VALUE;
        for (int center = 0; center <= 400; center += 5) {
            Lie lie = new Lie(plan.ship(plan.weight(), center));
            if (lie.stands && lie.greatest() < least) {
                best = center;
                least = lie.greatest();
            }
        }
        return best;
    }

    int bestPlace(int stiffness) {
        argument(in(stiffness, 1, 100));
        int best = -1;
        int least = Integer.MAX_VALUE;
        for (int place = 0; place <= 400 && plan.blocks().size() < 16; place += 10) {
            Lie lie = new Lie(plan.plus(new Block(place, stiffness, 0, 1, 0, 0)));
            if (lie.stands && lie.greatest() < least) {
                best = place;
                least = lie.greatest();
            }
        }
        return best;
    }

    int append(int value) {
        argument(in(value, 0, 127));
        state(text.length() < 160);
        text += (char) value;
        return text.length();
    }

    int clearText() {
        int before = text.length();
        text = "";
        return before;
    }

    int parse() {
        int syntax = syntaxError();
        // a number that is out of its range is found at the byte behind it, ahead of what is wrong with that byte
        Matcher numbers = Pattern.compile("\\d+").matcher(text);
        while (numbers.find() && numbers.end() <= (syntax < 0 ? text.length() : syntax)) {
            if (!inRange(numbers.start(), Integer.parseInt(numbers.group()))) {
                return -10 - numbers.start();
            }
        }
        if (syntax >= 0) {
            return -10 - syntax;
        }
        keep(planOfText());
        return plan.blocks().size();
    }

    /** The index of the first byte behind which no text can go on any more, whatever its numbers; -1 if none. */
    private int syntaxError() {
        int blocks = 0;
        for (int i = 0; i < text.length(); i++) {
            Matcher matcher = TEXT.matcher(text.substring(0, i + 1));
            blocks += text.charAt(i) == 'b' ? 1 : 0;
            if (blocks > 16 || !matcher.matches() && !matcher.hitEnd()) {
                return i;
            }
        }
        return TEXT.matcher(text).matches() ? -1 : text.length();
    }

    private boolean inRange(int start, int number) {
        int item = Math.max(text.lastIndexOf('b', start), text.lastIndexOf('s', start));
        long commas = text.substring(item, start).chars().filter(c -> c == ',').count();
        int signed = text.charAt(start - 1) == '-' ? -number : number;
        if (text.charAt(item) == 's') {
            return commas == 0 ? in(signed, 1, 100000) : in(signed, 0, 400);
        }
        int[] least = {0, 1, -50, 1};
        int[] greatest = {400, 100, 50, 99999};
        return in(signed, least[(int) commas], greatest[(int) commas]);
    }

    private Plan planOfText() {
        Plan next = new Plan(List.of(), plan.weight(), plan.center());
        for (String item : text.split(";")) {
            if (item.isEmpty()) {
                continue;
            }
            String[] n = item.substring(1).split(",");
            next = item.charAt(0) == 's'
                    ? next.ship(Integer.parseInt(n[0]), Integer.parseInt(n[1]))
                    : next.plus(new Block(Integer.parseInt(n[0]), Integer.parseInt(n[1]), Integer.parseInt(n[2]),
                            Integer.parseInt(n[3]), 0, 0));
        }
        return next;
    }

    int undo() {
        state(!saved.isEmpty());
        plan = saved.removeLast();
        return saved.size();
    }

    long digest() {
        List<Long> values = new ArrayList<>();
        values.add((long) text.length());
        for (int what = 0; what <= 9; what++) {
            values.add((long) value(what));
        }
        for (int what = 0; what <= 2; what++) {
            values.add(balance(what));
        }
        for (int i = 0; i < plan.blocks().size(); i++) {
            for (int what = 0; what <= 8; what++) {
                values.add((long) block(i, what));
            }
        }
        values.add((long) saved.size());
        BigInteger hash = BigInteger.valueOf(3433);
        for (long v : values) {
            hash = hash.multiply(BigInteger.valueOf(31)).add(BigInteger.valueOf(v));
        }
        return hash.longValue();
    }
}
