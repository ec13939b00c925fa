/**
 * The keel blocks of a dry dock: the loads of a ship with a rigid keel on blocks of unlike stiffness, what becomes of
 * overloaded blocks, what-if questions, and dock plans that are read from a text.
 *
 * Every change and every question is first carried out on a trial dock; a change is kept only when nothing speaks
 * against it any more, so a call that throws leaves everything as it was.
 */
public final class KeelBlocks {
    /** There is no such thing. */
    public static final int NONE = -1;

    private static final int MAX_BLOCKS = 16;
    private static final int MAX_PLACE = 400;
    private static final int MAX_STIFFNESS = 100;
    private static final int MIN_CAP = -50;
    private static final int MAX_CAP = 50;
    private static final int MAX_LIMIT = 99999;
    private static final int MAX_WEIGHT = 100000;
    private static final int FIRST_WEIGHT = 1000;
    private static final int FIRST_CENTER = 200;
    private static final int MAX_ROUNDS = 30;
    private static final int MAX_SHAVING_STEPS = 100;
    private static final int MAX_SAVED = 4;
    private static final int MAX_TEXT = 160;
    private static final int MAX_BYTE = 127;

    private static final int WEIGHT_STEP = 1000;
    private static final int CENTER_STEP = 5;
    private static final int PLACE_STEP = 10;
    private static final int BAD_SHAVING = -1000;
    private static final int SYNTAX_ERROR = -10;

    private static final int BLOCK_WHATS = 9;
    private static final int VALUE_WHATS = 10;
    private static final int BALANCE_WHATS = 3;
    private static final long DIGEST_START = 3433;
    private static final long DIGEST_FACTOR = 31;

    private final Dock dock = new Dock();
    private final Balance present = new Balance();
    private final Dock trial = new Dock();
    private final Balance trialBalance = new Balance();
    private final History history = new History();
    private final DockText text = new DockText();
    private final DockReader reader = new DockReader(text);

    public KeelBlocks() {
        present.find(dock);
    }

    // ---- dock

    public int addBlock(int place, int stiffness, int cap, int limit)
            throws IllegalArgumentException, IllegalStateException {
        if (!isIn(place, 0, MAX_PLACE) || !isIn(stiffness, 1, MAX_STIFFNESS)
                || !isIn(cap, MIN_CAP, MAX_CAP) || !isIn(limit, 1, MAX_LIMIT)) {
            throw new IllegalArgumentException("an argument is out of range");
        }
        startTrial();
        int number = trial.add(place, stiffness, cap, limit);
        if (number == NONE) {
            throw new IllegalStateException("there are 16 blocks");
        }
        keepTrial();
        return number;
    }

    public int setCap(int block, int cap) throws IndexOutOfBoundsException, IllegalArgumentException {
        if (!dock.hasBlock(block)) {
            throw new IndexOutOfBoundsException("there is no such block");
        }
        if (!isIn(cap, MIN_CAP, MAX_CAP)) {
            throw new IllegalArgumentException("cap is out of range");
        }
        int previous = dock.cap[block];
        startTrial();
        trial.cap[block] = cap;
        keepTrial();
        return previous;
    }

    public int setLimit(int block, int limit) throws IndexOutOfBoundsException, IllegalArgumentException {
        if (!dock.hasBlock(block)) {
            throw new IndexOutOfBoundsException("there is no such block");
        }
        if (!isIn(limit, 1, MAX_LIMIT)) {
            throw new IllegalArgumentException("limit is out of range");
        }
        int previous = dock.limit[block];
        startTrial();
        trial.limit[block] = limit;
        keepTrial();
        return previous;
    }

    public int setShip(int weight, int center) throws IllegalArgumentException {
        if (!isIn(weight, 1, MAX_WEIGHT) || !isIn(center, 0, MAX_PLACE)) {
            throw new IllegalArgumentException("weight or center is out of range");
        }
        int previous = dock.weight;
        startTrial();
        trial.weight = weight;
        trial.center = center;
        keepTrial();
        return previous;
    }

    public int pull(int block) throws IndexOutOfBoundsException, IllegalStateException {
        if (!dock.hasBlock(block)) {
            throw new IndexOutOfBoundsException("there is no such block");
        }
        if (!canPull(block)) {
            throw new IllegalStateException("the block does not stand, or the others would not bear the ship");
        }
        keepTrial();
        return present.greatestLoad();
    }

    public int put(int block) throws IndexOutOfBoundsException, IllegalStateException {
        if (!dock.hasBlock(block)) {
            throw new IndexOutOfBoundsException("there is no such block");
        }
        if (isMember(dock.standing, block)) {
            throw new IllegalStateException("the block stands");
        }
        startTrial();
        trial.putBack(block);
        keepTrial();
        return present.stands ? present.load[block] : NONE;
    }

    public int cascade() {
        tryCascade();
        int crushed = Integer.bitCount(dock.standing) - Integer.bitCount(trial.standing);
        keepTrial();
        return crushed;
    }

    public int shave() {
        int steps = tryShaving();
        keepTrial();
        return steps;
    }

    public int block(int block, int what) throws IndexOutOfBoundsException, IllegalArgumentException {
        if (!dock.hasBlock(block)) {
            throw new IndexOutOfBoundsException("there is no such block");
        }
        switch (what) {
            case 0:
                return dock.place[block];
            case 1:
                return dock.stiffness[block];
            case 2:
                return dock.cap[block];
            case 3:
                return dock.limit[block];
            case 4:
                return dock.stateOf(block);
            case 5:
                return present.load[block];
            case 6:
                return isMember(present.bearing, block) ? 1 : 0;
            case 7:
                return isMember(present.overloaded, block) ? 1 : 0;
            case 8:
                return dock.shaved[block];
            default:
                throw new IllegalArgumentException("what is out of range");
        }
    }

    public int value(int what) throws IllegalArgumentException {
        switch (what) {
            case 0:
                return dock.weight;
            case 1:
                return dock.center;
            case 2:
                return dock.count;
            case 3:
                return Integer.bitCount(dock.standing);
            case 4:
                return Integer.bitCount(present.bearing);
            case 5:
                return Integer.bitCount(present.overloaded);
            case 6:
                return present.stands ? 1 : 0;
            case 7:
                return present.rounds;
            case 8:
                return present.greatestLoad();
            case 9:
                return present.mostLoaded();
            default:
                throw new IllegalArgumentException("what is out of range");
        }
    }

    public long balance(int what) throws IllegalArgumentException {
        if (!isIn(what, 0, BALANCE_WHATS - 1)) {
            throw new IllegalArgumentException("what is out of range");
        }
        if (!present.stands) {
            return 0;
        }
        if (what == 0) {
            return present.aTimesD;
        }
        return what == 1 ? present.bTimesD : present.d;
    }

    public double tilt() {
        double divisor = (double) present.d;
        if (!present.stands || divisor == 0.0) {
            return 0.0;
        }
        return (double) present.bTimesD / divisor;
    }

    // ---- what if

    public int loadWithout(int block, int pulled) throws IndexOutOfBoundsException {
        if (!dock.hasBlock(block) || !dock.hasBlock(pulled)) {
            throw new IndexOutOfBoundsException("there is no such block");
        }
        startTrial();
        trial.pullOut(pulled);
        trialBalance.find(trial);
        return trialBalance.stands ? trialBalance.load[block] : NONE;
    }

    public int pullable() {
        int blocks = 0;
        for (int i = 0; i < MAX_BLOCKS; i++) {
            if (canPull(i)) {
                blocks++;
            }
        }
        return blocks;
    }

    public int cascadeSteps() {
        return tryCascade();
    }

    public boolean survives() {
        tryCascade();
        return trialBalance.stands;
    }

    public int shavingSteps() {
        int steps = tryShaving();
        return trialBalance.isSafe() ? steps : BAD_SHAVING - steps;
    }

    public int greatestWeight() {
        startTrial();
        for (int weight = MAX_WEIGHT; weight >= WEIGHT_STEP; weight -= WEIGHT_STEP) {
            trial.weight = weight;
            trialBalance.find(trial);
            if (trialBalance.isSafe()) {
                return weight;
            }
        }
        return NONE;
    }

    public int bestCenter() {
        int best = NONE;
        int least = 0;
        startTrial();
        for (int center = 0; center <= MAX_PLACE; center += CENTER_STEP) {
            trial.center = center;
            trialBalance.find(trial);
            if (trialBalance.stands && (best == NONE || trialBalance.greatestLoad() < least)) {
                best = center;
                least = trialBalance.greatestLoad();
            }
        }
        return best;
    }

    public int bestPlace(int stiffness) throws IllegalArgumentException {
        if (!isIn(stiffness, 1, MAX_STIFFNESS)) {
            throw new IllegalArgumentException("stiffness is out of range");
        }
        if (!dock.hasRoom()) {
            return NONE;
        }
        int best = NONE;
        int least = 0;
        for (int place = 0; place <= MAX_PLACE; place += PLACE_STEP) {
            startTrial();
            trial.add(place, stiffness, 0, MAX_LIMIT);
            trialBalance.find(trial);
            if (trialBalance.stands && (best == NONE || trialBalance.greatestLoad() < least)) {
                best = place;
                least = trialBalance.greatestLoad();
            }
        }
        return best;
    }

    // ---- text

    public int append(int value) throws IllegalArgumentException, IllegalStateException {
        if (!isIn(value, 0, MAX_BYTE)) {
            throw new IllegalArgumentException("value is out of range");
        }
        if (text.length >= MAX_TEXT) {
            throw new IllegalStateException("the text has 160 bytes");
        }
        text.add(value);
        return text.length;
    }

    public int clearText() {
        int previous = text.length;
        text.length = 0;
        return previous;
    }

    public int parse() {
        startTrial();
        trial.removeBlocks();
        int errorAt = reader.read(trial);
        if (errorAt != NONE) {
            return SYNTAX_ERROR - errorAt;
        }
        keepTrial();
        return dock.count;
    }

    // ---- state

    public int undo() throws IllegalStateException {
        Dock saved = history.takeNewest();
        if (saved == null) {
            throw new IllegalStateException("there is no saved state");
        }
        dock.copyFrom(saved);
        present.find(dock);
        return history.size;
    }

    public long digest() {
        long hash = DIGEST_START * DIGEST_FACTOR + text.length;
        for (int what = 0; what < VALUE_WHATS; what++) {
            hash = DIGEST_FACTOR * hash + value(what);
        }
        for (int what = 0; what < BALANCE_WHATS; what++) {
            hash = DIGEST_FACTOR * hash + balance(what);
        }
        for (int i = 0; i < dock.count; i++) {
            for (int what = 0; what < BLOCK_WHATS; what++) {
                hash = DIGEST_FACTOR * hash + block(i, what);
            }
        }
        return DIGEST_FACTOR * hash + history.size;
    }

    // ---- trials

    private void startTrial() {
        trial.copyFrom(dock);
    }

    /** Makes the trial dock the present one; every undoable call ends here. */
    private void keepTrial() {
        history.save(dock);
        dock.copyFrom(trial);
        present.find(dock);
    }

    /** Tells whether pull() would do it; if so, the trial dock is the one without the block. */
    private boolean canPull(int block) {
        if (!isMember(dock.standing, block)) {
            return false;
        }
        startTrial();
        trial.pullOut(block);
        trialBalance.find(trial);
        return trialBalance.isSafe();
    }

    /** Carries out the cascade on the trial dock, and returns its steps. */
    private int tryCascade() {
        startTrial();
        trialBalance.find(trial);
        int steps = 0;
        // each step crushes at least one block, so there are no more steps than blocks
        while (steps < MAX_BLOCKS && trialBalance.overloaded != 0) {
            trial.crush(trialBalance.overloaded);
            trialBalance.find(trial);
            steps++;
        }
        return steps;
    }

    /** Carries out the shaving on the trial dock, and returns its steps. */
    private int tryShaving() {
        startTrial();
        trialBalance.find(trial);
        int steps = 0;
        while (steps < MAX_SHAVING_STEPS && trial.lowerCap(trialBalance.mostOverloaded(trial))) {
            trialBalance.find(trial);
            steps++;
        }
        return steps;
    }

    // ---- numbers and sets

    private static boolean isIn(int number, int least, int greatest) {
        return number >= least && number <= greatest;
    }

    /** A set of blocks is a number whose bit i tells whether block i is in it. */
    private static boolean isMember(int set, int block) {
        return (set >>> block & 1) != 0;
    }

    /** The blocks and the ship: all that a saved state holds. */
    private static final class Dock {
        int weight = FIRST_WEIGHT;
        int center = FIRST_CENTER;
        int count = 0;
        int standing = 0;
        int crushed = 0;
        final int[] place = new int[MAX_BLOCKS];
        final int[] stiffness = new int[MAX_BLOCKS];
        final int[] cap = new int[MAX_BLOCKS];
        final int[] limit = new int[MAX_BLOCKS];
        final int[] shaved = new int[MAX_BLOCKS];

        boolean hasBlock(int number) {
            return number >= 0 && number < count && number < MAX_BLOCKS;
        }

        boolean hasRoom() {
            return count >= 0 && count < MAX_BLOCKS;
        }

        /** Adds a block that stands, and returns its number; NONE if there is no room for it. */
        int add(int newPlace, int newStiffness, int newCap, int newLimit) {
            int number = count;
            if (number < 0 || number >= MAX_BLOCKS) {
                return NONE;
            }
            place[number] = newPlace;
            stiffness[number] = newStiffness;
            cap[number] = newCap;
            limit[number] = newLimit;
            shaved[number] = 0;
            standing |= 1 << number;
            count = number + 1;
            return number;
        }

        void removeBlocks() {
            count = 0;
            standing = 0;
            crushed = 0;
        }

        void pullOut(int number) {
            standing &= ~(1 << number);
        }

        void putBack(int number) {
            standing |= 1 << number;
            crushed &= ~(1 << number);
        }

        void crush(int set) {
            standing &= ~set;
            crushed |= set;
        }

        /** Shaves a block by one step; answers false if there is no such block, or its cap is as low as can be. */
        boolean lowerCap(int number) {
            if (!hasBlock(number) || cap[number] <= MIN_CAP) {
                return false;
            }
            cap[number]--;
            shaved[number]++;
            return true;
        }

        int stateOf(int number) {
            if (isMember(standing, number)) {
                return 0;
            }
            return isMember(crushed, number) ? 2 : 1;
        }

        void copyFrom(Dock other) {
            weight = other.weight;
            center = other.center;
            count = other.count;
            standing = other.standing;
            crushed = other.crushed;
            for (int i = 0; i < MAX_BLOCKS; i++) {
                place[i] = other.place[i];
                stiffness[i] = other.stiffness[i];
                cap[i] = other.cap[i];
                limit[i] = other.limit[i];
                shaved[i] = other.shaved[i];
            }
        }
    }

    /** How the ship lies on the blocks of a dock. If it does not stand, no block bears, and all loads are 0. */
    private static final class Balance {
        boolean stands;
        int rounds;
        int bearing;
        int overloaded;
        // a and b stay fractions over d, so that no press is rounded; all of them fit into a long
        long aTimesD;
        long bTimesD;
        long d;
        final int[] load = new int[MAX_BLOCKS];
        private final long[] cutOff = new long[MAX_BLOCKS];

        void find(Dock dock) {
            stands = false;
            bearing = 0;
            overloaded = 0;
            for (int i = 0; i < MAX_BLOCKS; i++) {
                load[i] = 0;
            }
            findBearing(dock);
            if (stands) {
                roundLoads(dock);
                findOverloaded(dock);
            }
        }

        private void findBearing(Dock dock) {
            int set = dock.standing;
            for (int round = 1; round <= MAX_ROUNDS; round++) {
                rounds = round;
                solve(dock, set);
                if (d <= 0) {
                    return;
                }
                int next = pressed(dock);
                if (next == set) {
                    stands = true;
                    bearing = set;
                    return;
                }
                set = next;
            }
        }

        /** Finds a and b for a set of blocks; d is 0 if there are none, for an empty set, too. */
        private void solve(Dock dock, int set) {
            long s0 = 0;
            long s1 = 0;
            long s2 = 0;
            long force = dock.weight;
            long moment = (long) dock.weight * dock.center;
            for (int i = 0; i < MAX_BLOCKS; i++) {
                if (isMember(set, i)) {
                    long stiffness = dock.stiffness[i];
                    long place = dock.place[i];
                    s0 += stiffness;
                    s1 += stiffness * place;
                    s2 += stiffness * place * place;
                    force -= stiffness * dock.cap[i];
                    moment -= stiffness * dock.cap[i] * place;
                }
            }
            d = s0 * s2 - s1 * s1;
            aTimesD = force * s2 - moment * s1;
            bTimesD = moment * s0 - force * s1;
        }

        /** The standing blocks that the keel touches with the present a and b. */
        private int pressed(Dock dock) {
            int set = 0;
            for (int i = 0; i < MAX_BLOCKS; i++) {
                if (isMember(dock.standing, i) && pressTimesD(dock.place[i], dock.cap[i]) > 0) {
                    set |= 1 << i;
                }
            }
            return set;
        }

        private long pressTimesD(long place, long cap) {
            return aTimesD + bTimesD * place + d * cap;
        }

        private void roundLoads(Dock dock) {
            if (d <= 0) {
                return;
            }
            int rest = dock.weight;
            for (int i = 0; i < MAX_BLOCKS; i++) {
                cutOff[i] = NONE;
                if (isMember(bearing, i)) {
                    long forceTimesD = dock.stiffness[i] * pressTimesD(dock.place[i], dock.cap[i]);
                    load[i] = (int) (forceTimesD / d);
                    cutOff[i] = forceTimesD % d;
                    rest -= load[i];
                }
            }
            for (int given = 0; given < rest && given < MAX_BLOCKS; given++) {
                giveOneMore();
            }
        }

        /** Adds 1 to the load from which most was cut off, and takes it out of the competition. */
        private void giveOneMore() {
            int chosen = 0;
            for (int i = 1; i < MAX_BLOCKS; i++) {
                if (cutOff[i] > cutOff[chosen]) {
                    chosen = i;
                }
            }
            load[chosen]++;
            cutOff[chosen] = NONE;
        }

        private void findOverloaded(Dock dock) {
            for (int i = 0; i < MAX_BLOCKS; i++) {
                if (isMember(bearing, i) && load[i] > dock.limit[i]) {
                    overloaded |= 1 << i;
                }
            }
        }

        boolean isSafe() {
            return stands && overloaded == 0;
        }

        /** The block with the greatest load; NONE if the ship does not stand. */
        int mostLoaded() {
            if (!stands) {
                return NONE;
            }
            int most = 0;
            for (int i = 1; i < MAX_BLOCKS; i++) {
                if (load[i] > load[most]) {
                    most = i;
                }
            }
            return most;
        }

        int greatestLoad() {
            int greatest = 0;
            for (int i = 0; i < MAX_BLOCKS; i++) {
                greatest = Math.max(greatest, load[i]);
            }
            return greatest;
        }

        /** The block with the greatest overload; NONE if no block is overloaded. */
        int mostOverloaded(Dock dock) {
            int most = NONE;
            int greatest = 0;
            for (int i = 0; i < MAX_BLOCKS; i++) {
                int overload = load[i] - dock.limit[i];
                if (isMember(overloaded, i) && overload > greatest) {
                    most = i;
                    greatest = overload;
                }
            }
            return most;
        }
    }

    /** The saved states, of which the oldest is overwritten when there is no slot left. */
    private static final class History {
        int size = 0;
        private int newest = 0;
        private final Dock[] slots = new Dock[MAX_SAVED];

        void save(Dock dock) {
            newest = Math.floorMod(newest + 1, MAX_SAVED);
            Dock slot = slots[newest];
            if (slot == null) {
                slot = new Dock();
                slots[newest] = slot;
            }
            slot.copyFrom(dock);
            size = Math.min(size + 1, MAX_SAVED);
        }

        /** Takes the newest state out; null if there is none. It is good until the next save. */
        Dock takeNewest() {
            if (size <= 0) {
                return null;
            }
            Dock slot = slots[Math.floorMod(newest, MAX_SAVED)];
            newest = Math.floorMod(newest - 1, MAX_SAVED);
            size--;
            return slot;
        }
    }

    private static final class DockText {
        int length = 0;
        private final byte[] bytes = new byte[MAX_TEXT];

        void add(int value) {
            if (length >= 0 && length < MAX_TEXT) {
                bytes[length] = (byte) value;
                length++;
            }
        }

        /** The byte at an index; NONE behind the end, so that the end differs from every byte. */
        int byteAt(int index) {
            return index >= 0 && index < length && index < MAX_TEXT ? bytes[index] : NONE;
        }
    }

    /** Reads a dock text from front to back, up to the first byte that cannot stand where it stands. */
    private static final class DockReader {
        private final DockText text;
        private int position = 0;
        private int errorAt = NONE;

        DockReader(DockText text) {
            this.text = text;
        }

        /** Puts the blocks and the ship of the text into a dock; returns the syntax error position, NONE if none. */
        int read(Dock target) {
            position = 0;
            errorAt = NONE;
            // an item has more than one byte, so there are fewer items than bytes
            for (int items = 0; items < MAX_TEXT && errorAt == NONE && position < text.length; items++) {
                readItem(target);
            }
            return errorAt;
        }

        private void readItem(Dock target) {
            int kind = text.byteAt(position);
            if (kind == 'b' && target.hasRoom()) {
                position++;
                readBlock(target);
            } else if (kind == 's') {
                position++;
                readShip(target);
            } else {
                errorAt = position;
            }
        }

        private void readBlock(Dock target) {
            int place = readNumber(3, 0, MAX_PLACE, ',');
            int stiffness = readNumber(3, 1, MAX_STIFFNESS, ',');
            int cap = readNumber(2, MIN_CAP, MAX_CAP, ',');
            int limit = readNumber(5, 1, MAX_LIMIT, ';');
            if (errorAt == NONE) {
                target.add(place, stiffness, cap, limit);
            }
        }

        private void readShip(Dock target) {
            int weight = readNumber(6, 1, MAX_WEIGHT, ',');
            int center = readNumber(3, 0, MAX_PLACE, ';');
            if (errorAt == NONE) {
                target.weight = weight;
                target.center = center;
            }
        }

        /** Reads a number and the byte behind it; only a number that can be below 0 can have a sign. */
        private int readNumber(int maxDigits, int least, int greatest, int terminator) {
            if (errorAt != NONE) {
                return 0;
            }
            boolean negative = least < 0 && text.byteAt(position) == '-';
            if (negative) {
                position++;
            }
            int start = position;
            int amount = 0;
            while (position < start + maxDigits && isDigit(text.byteAt(position))) {
                amount = 10 * amount + text.byteAt(position) - '0';
                position++;
            }
            int number = negative ? -amount : amount;
            int next = text.byteAt(position);
            if (position == start || isDigit(next)) {
                errorAt = position;
            } else if (!isIn(number, least, greatest)) {
                errorAt = start;
            } else if (next != terminator) {
                errorAt = position;
            } else {
                position++;
            }
            return number;
        }

        private static boolean isDigit(int value) {
            return value >= '0' && value <= '9';
        }
    }
}
