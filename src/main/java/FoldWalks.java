/**
 * Curves of functions of two variables, followed in steps through folds and crossings.
 *
 * What each call promises stands in the project's document; README.md tells where the parts are.
 */
public final class FoldWalks {
    public static final int INVALID_ARGUMENT = -1000001;
    public static final int NOT_POSSIBLE = -1000002;
    public static final int LIMIT_REACHED = -1000003;
    public static final int NOT_FOUND = -1000004;

    private static final int BOUND = 1024;
    private static final long UNIT = 256;
    private static final int UNIT_BITS = 8;
    private static final long VALUE_SHIFT = 1000000000000L;

    private static final int MOST_FACTOR = 5;
    private static final int MOST_POWER = 3;
    private static final int MOST_TERMS = 6;
    private static final int MOST_WALKS = 5;
    private static final int MOST_PLACES = 40;
    private static final int MOST_STATES = 4;
    private static final int MOST_CHARACTERS = 60;

    private static final int PLAIN = 0;
    private static final int FOLD = 1;
    private static final int CROSSING = 2;

    private static final int CAN_STEP = 0;
    private static final int STUCK = 1;
    private static final int FULL = 2;

    private static final int NOTHING = -1;

    private final State now = new State();
    private final History history = new History();
    private final Mover mover = new Mover();
    private final Text text = new Text();
    private final Reader reader = new Reader();

    public FoldWalks() {
    }

    // ---- functions

    public int term(int factor, int x, int y) {
        if (factor == 0 || !isWithin(factor, -MOST_FACTOR, MOST_FACTOR)) {
            return INVALID_ARGUMENT;
        }
        if (!isWithin(x, 0, MOST_POWER) || !isWithin(y, 0, MOST_POWER) || x + y > MOST_POWER) {
            return INVALID_ARGUMENT;
        }
        if (now.terms.isFull()) {
            return LIMIT_REACHED;
        }
        history.keep(now);
        now.walks.clear();
        now.terms.add(factor, x, y);
        return now.terms.size;
    }

    public int dropTerm(int index) {
        if (index < 0) {
            return INVALID_ARGUMENT;
        }
        if (!now.terms.has(index)) {
            return NOT_POSSIBLE;
        }
        history.keep(now);
        now.walks.clear();
        return now.terms.remove(index);
    }

    public int termOf(int index, int what) {
        if (index < 0 || !isWithin(what, 0, 2)) {
            return INVALID_ARGUMENT;
        }
        if (!now.terms.has(index)) {
            return NOT_FOUND;
        }
        switch (what) {
            case 0:
                return now.terms.factors[index];
            case 1:
                return now.terms.xPowers[index];
            default:
                return now.terms.yPowers[index];
        }
    }

    public long value(int x, int y, int what) {
        if (!isPlace(x, y) || !isWithin(what, 0, 2)) {
            return INVALID_ARGUMENT;
        }
        Spot spot = mover.from;
        spot.look(now.terms, x, y);
        switch (what) {
            case 0:
                return VALUE_SHIFT + spot.f;
            case 1:
                return VALUE_SHIFT + spot.gx;
            default:
                return VALUE_SHIFT + spot.gy;
        }
    }

    public int corrected(int x, int y, int what) {
        if (!isPlace(x, y) || !isWithin(what, 0, 2)) {
            return INVALID_ARGUMENT;
        }
        Corrector corrector = mover.corrector;
        if (!corrector.correct(now, x, y)) {
            return NOT_FOUND;
        }
        switch (what) {
            case 0:
                return corrector.x;
            case 1:
                return corrector.y;
            default:
                return corrector.rounds;
        }
    }

    // ---- walks

    public int begin(int x, int y, int sign) {
        if (!isPlace(x, y) || !isSign(sign)) {
            return INVALID_ARGUMENT;
        }
        if (!mover.corrector.correct(now, x, y)) {
            return NOT_POSSIBLE;
        }
        return startWalk(sign, NOTHING, NOTHING);
    }

    public int branch(int walk, int place, int side) {
        Walk parent = now.walks.at(walk);
        if (parent == null || !parent.has(place) || !isSign(side)) {
            return INVALID_ARGUMENT;
        }
        if (parent.kinds[place] != CROSSING || !mover.leavesCrossing(now, parent, place, side)) {
            return NOT_POSSIBLE;
        }
        return startWalk(mover.signBeside(parent, place, side), walk, place);
    }

    /** Begins a walk at the place that the corrector has just found. */
    private int startWalk(int sign, int parent, int parentPlace) {
        if (now.walks.isFull()) {
            return LIMIT_REACHED;
        }
        history.keep(now);
        int number = now.walks.size;
        Walk walk = now.walks.addOne();
        if (walk != null) {
            walk.start(sign, now.settings.at(Settings.FIRST_LENGTH), parent, parentPlace);
            walk.addPlace(mover.corrector, PLAIN);
        }
        return number;
    }

    public int step(int walk, int many) {
        Walk moved = now.walks.at(walk);
        if (moved == null || !isWithin(many, 1, MOST_PLACES)) {
            return INVALID_ARGUMENT;
        }
        if (moved.condition() != CAN_STEP) {
            return NOT_POSSIBLE;
        }
        history.keep(now);
        int added = 0;
        while (added < many && moved.condition() == CAN_STEP && mover.advance(now, moved)) {
            added++;
        }
        return added;
    }

    public int drop(int walk) {
        if (now.walks.at(walk) == null) {
            return INVALID_ARGUMENT;
        }
        history.keep(now);
        now.walks.removeFamily(walk);
        return now.walks.size;
    }

    public int set(int what, int value) {
        if (!Settings.allows(what, value)) {
            return INVALID_ARGUMENT;
        }
        history.keep(now);
        return now.settings.replace(what, value);
    }

    // ---- what there is

    public int walkOf(int walk, int what) {
        Walk asked = now.walks.at(walk);
        if (asked == null || !isWithin(what, 0, 8)) {
            return INVALID_ARGUMENT;
        }
        switch (what) {
            case 0:
                return asked.size;
            case 1:
                return asked.sign;
            case 2:
                return asked.pace;
            case 3:
                return asked.condition();
            case 4:
                return asked.placesOfKind(FOLD);
            case 5:
                return asked.placesOfKind(CROSSING);
            case 6:
                return asked.parent == NOTHING ? NOT_FOUND : asked.parent;
            case 7:
                return asked.parent == NOTHING ? NOT_FOUND : asked.parentPlace;
            default:
                return now.walks.markFamily(walk) - 1;
        }
    }

    public int placeOf(int walk, int place, int what) {
        Walk asked = now.walks.at(walk);
        if (asked == null || place < 0 || !isWithin(what, 0, 3)) {
            return INVALID_ARGUMENT;
        }
        if (!asked.has(place)) {
            return NOT_FOUND;
        }
        switch (what) {
            case 0:
                return asked.xs[place];
            case 1:
                return asked.ys[place];
            case 2:
                return asked.rounds[place];
            default:
                return asked.kinds[place];
        }
    }

    public int count(int what) {
        switch (what) {
            case 0:
                return now.terms.size;
            case 1:
                return now.walks.size;
            case 2:
                return now.walks.places();
            case 3:
                return now.walks.placesOfKind(FOLD);
            case 4:
                return now.walks.placesOfKind(CROSSING);
            case 5:
                return history.size;
            case 6:
                return text.length;
            case 10:
            case 11:
            case 12:
                return now.settings.at(what - 10);
            default:
                return INVALID_ARGUMENT;
        }
    }

    public int meets(int x) {
        if (!isWithin(x, -BOUND, BOUND)) {
            return INVALID_ARGUMENT;
        }
        long c0 = now.terms.coefficient(x, 0);
        long c1 = now.terms.coefficient(x, 1);
        long c2 = now.terms.coefficient(x, 2);
        long c3 = now.terms.coefficient(x, 3);
        int changes = 0;
        int lastSign = 0;
        for (long y = -BOUND; y <= BOUND; y++) {
            long f = c0 + y * (c1 + y * (c2 + y * c3));
            int sign = f > 0 ? 1 : f < 0 ? -1 : 0;
            if (sign * lastSign < 0) {
                changes++;
            }
            if (sign != 0) {
                lastSign = sign;
            }
        }
        return changes;
    }

    public int lengthBits(int walk) {
        Walk asked = now.walks.at(walk);
        return asked == null ? INVALID_ARGUMENT : bitsOfParts(asked.lengthInParts());
    }

    public int nearest(int walk, int x, int y) {
        Walk asked = now.walks.at(walk);
        if (asked == null || !isPlace(x, y)) {
            return INVALID_ARGUMENT;
        }
        return asked.nearestTo(x, y);
    }

    public int undo() {
        if (history.size == 0) {
            return NOT_POSSIBLE;
        }
        history.restore(now);
        return history.size;
    }

    // ---- texts

    public int type(int character) {
        if (!isWithin(character, 32, 126)) {
            return INVALID_ARGUMENT;
        }
        if (text.isFull()) {
            return LIMIT_REACHED;
        }
        text.append(character);
        return text.length;
    }

    public int clearText() {
        int length = text.length;
        text.length = 0;
        return length;
    }

    public int fault(int what) {
        if (!isWithin(what, 0, 1)) {
            return INVALID_ARGUMENT;
        }
        reader.scan(text);
        if (reader.reason == Reader.NO_FAULT) {
            return NOT_FOUND;
        }
        return what == 0 ? reader.place : reader.reason;
    }

    public int read() {
        reader.scan(text);
        if (reader.reason != Reader.NO_FAULT) {
            return NOT_POSSIBLE;
        }
        history.keep(now);
        now.walks.clear();
        now.terms.copyFrom(reader.terms);
        return now.terms.size;
    }

    // ---- numbers

    private static boolean isWithin(long number, long least, long greatest) {
        return number >= least && number <= greatest;
    }

    private static boolean isPlace(long x, long y) {
        return isWithin(x, -BOUND, BOUND) && isWithin(y, -BOUND, BOUND);
    }

    private static boolean isSign(int number) {
        return number == 1 || number == -1;
    }

    private static long power(long base, int exponent) {
        long product = 1;
        for (int i = 0; i < exponent; i++) {
            product *= base;
        }
        return product;
    }

    /** The greatest number whose square is at most the given one, which is below 2 to the 62nd. */
    private static long rootOf(long square) {
        long root = 0;
        for (long bit = 1L << 30; bit > 0; bit >>= 1) {
            long more = root + bit;
            if (more * more <= square) {
                root = more;
            }
        }
        return root;
    }

    /**
     * The bits of the float of parts / 256. They are put together from whole numbers because the
     * library that is allowed has none of Float; a walk has far fewer than 2 to the 24th parts, so
     * that neither the float nor the division by a power of 2 rounds anything.
     */
    private static int bitsOfParts(int parts) {
        if (parts <= 0) {
            return 0;
        }
        int highest = 0;
        while (highest < 23 && parts >> highest > 1) {
            highest++;
        }
        int fraction = (parts << (23 - highest)) & 0x7fffff;
        return (127 + highest - UNIT_BITS) << 23 | fraction;
    }

    /** The terms of a function, in their order. */
    private static final class Terms {
        private final int[] factors = new int[MOST_TERMS];
        private final int[] xPowers = new int[MOST_TERMS];
        private final int[] yPowers = new int[MOST_TERMS];
        private int size;

        boolean has(int index) {
            return index >= 0 && index < size;
        }

        boolean isFull() {
            return size >= MOST_TERMS;
        }

        void add(int factor, int xPower, int yPower) {
            if (isFull()) {
                return;
            }
            factors[size] = factor;
            xPowers[size] = xPower;
            yPowers[size] = yPower;
            size++;
        }

        /** Removes a term and returns its factor. */
        int remove(int index) {
            if (!has(index)) {
                return 0;
            }
            int factor = factors[index];
            size--;
            for (int i = index; i < size; i++) {
                factors[i] = factors[i + 1];
                xPowers[i] = xPowers[i + 1];
                yPowers[i] = yPowers[i + 1];
            }
            return factor;
        }

        void clear() {
            size = 0;
        }

        /** What stands with y to a power in F, on the line of an x. */
        long coefficient(long x, int yPower) {
            long sum = 0;
            for (int i = 0; i < size; i++) {
                if (yPowers[i] == yPower) {
                    sum += factors[i] * power(x, xPowers[i]) * scale(i);
                }
            }
            return sum;
        }

        /** Brings a term to the same parts of a unit as one whose powers are together 3. */
        long scale(int index) {
            return has(index) ? power(UNIT, MOST_POWER - xPowers[index] - yPowers[index]) : 0;
        }

        void copyFrom(Terms other) {
            size = other.size;
            for (int i = 0; i < size; i++) {
                factors[i] = other.factors[i];
                xPowers[i] = other.xPowers[i];
                yPowers[i] = other.yPowers[i];
            }
        }
    }

    /** What a function is at a place. */
    private static final class Spot {
        private long f;
        private long gx;
        private long gy;

        void look(Terms terms, long x, long y) {
            f = 0;
            gx = 0;
            gy = 0;
            for (int i = 0; i < terms.size; i++) {
                int xPower = terms.xPowers[i];
                int yPower = terms.yPowers[i];
                long weight = terms.factors[i] * terms.scale(i);
                f += weight * power(x, xPower) * power(y, yPower);
                if (xPower >= 1) {
                    gx += weight * xPower * power(x, xPower - 1) * power(y, yPower);
                }
                if (yPower >= 1) {
                    gy += weight * yPower * power(x, xPower) * power(y, yPower - 1);
                }
            }
        }

        /** The document's G. */
        long steepness() {
            return gx * gx + gy * gy;
        }
    }

    /** Brings places to the curve, and holds what came of the last one that succeeded. */
    private static final class Corrector {
        private final Spot spot = new Spot();
        private int x;
        private int y;
        private int rounds;

        /** Tells whether the correction succeeds; the spot is that of the corrected place then. */
        boolean correct(State state, long fromX, long fromY) {
            long nextX = fromX;
            long nextY = fromY;
            int mostRounds = state.settings.at(Settings.MOST_ROUNDS);
            for (int round = 1; round <= mostRounds; round++) {
                if (!isPlace(nextX, nextY)) {
                    return false;
                }
                spot.look(state.terms, nextX, nextY);
                long steepness = spot.steepness();
                if (steepness == 0) {
                    return false;
                }
                long lessX = spot.f * spot.gx / steepness;
                long lessY = spot.f * spot.gy / steepness;
                if (lessX == 0 && lessY == 0) {
                    x = (int) nextX;
                    y = (int) nextY;
                    rounds = round;
                    return true;
                }
                nextX -= lessX;
                nextY -= lessY;
            }
            return false;
        }
    }

    /** Finds the next places of walks, and the first ones of those that leave crossings. */
    private static final class Mover {
        private final Corrector corrector = new Corrector();
        private final Spot from = new Spot();

        /** Adds the next place to a walk, or leaves the walk stuck; tells whether one was added. */
        boolean advance(State state, Walk walk) {
            from.look(state.terms, walk.lastX(), walk.lastY());
            long root = rootOf(from.steepness());
            for (; walk.pace > 0; walk.pace /= 2) {
                if (root != 0 && arrives(state, walk, root)) {
                    land(walk, state.settings.at(Settings.GREATEST_LENGTH));
                    return true;
                }
            }
            walk.stuck = true;
            return false;
        }

        private boolean arrives(State state, Walk walk, long root) {
            if (root == 0) {
                return false;
            }
            long reach = (long) walk.pace * walk.sign;
            long x = walk.lastX() + reach * -from.gy / root;
            long y = walk.lastY() + reach * from.gx / root;
            return corrector.correct(state, x, y)
                && (corrector.x != walk.lastX() || corrector.y != walk.lastY());
        }

        private void land(Walk walk, int greatestLength) {
            Spot to = corrector.spot;
            long dx = corrector.x - walk.lastX();
            long dy = corrector.y - walk.lastY();
            int kind = PLAIN;
            if ((to.gx * dy - to.gy * dx) * walk.sign < 0) {
                walk.sign = -walk.sign;
                kind = CROSSING;
            } else if (from.gy * to.gy < 0) {
                kind = FOLD;
            }
            walk.addPlace(corrector, kind);
            if (corrector.rounds <= 2) {
                walk.pace = Math.min(walk.pace * 2, greatestLength);
            } else if (corrector.rounds >= 5) {
                walk.pace = Math.max(walk.pace / 2, 1);
            }
        }

        /** Corrects the place beside a crossing; tells whether that succeeds. */
        boolean leavesCrossing(State state, Walk walk, int place, int side) {
            long a = walk.changeOfX(place);
            long b = walk.changeOfY(place);
            long root = rootOf(a * a + b * b);
            if (root == 0 || !walk.has(place)) {
                return false;
            }
            long reach = (long) state.settings.at(Settings.FIRST_LENGTH) * side;
            long x = walk.xs[place] + reach * -b / root;
            long y = walk.ys[place] + reach * a / root;
            return corrector.correct(state, x, y);
        }

        /** The sign with which a walk leaves the crossing to the side it was begun to. */
        int signBeside(Walk walk, int place, int side) {
            long a = walk.changeOfX(place);
            long b = walk.changeOfY(place);
            return (corrector.spot.gx * a + corrector.spot.gy * b) * side >= 0 ? 1 : -1;
        }
    }

    /** One walk: its places, and how it goes on. */
    private static final class Walk {
        private final int[] xs = new int[MOST_PLACES];
        private final int[] ys = new int[MOST_PLACES];
        private final int[] rounds = new int[MOST_PLACES];
        private final int[] kinds = new int[MOST_PLACES];
        private int size;
        private int sign;
        private int pace;
        private boolean stuck;
        private int parent;
        private int parentPlace;

        void start(int firstSign, int firstPace, int fromWalk, int fromPlace) {
            size = 0;
            sign = firstSign;
            pace = firstPace;
            stuck = false;
            parent = fromWalk;
            parentPlace = fromPlace;
        }

        void addPlace(Corrector found, int kind) {
            if (size >= MOST_PLACES) {
                return;
            }
            xs[size] = found.x;
            ys[size] = found.y;
            rounds[size] = found.rounds;
            kinds[size] = kind;
            size++;
        }

        boolean has(int place) {
            return place >= 0 && place < size;
        }

        int condition() {
            if (stuck) {
                return STUCK;
            }
            return size >= MOST_PLACES ? FULL : CAN_STEP;
        }

        int lastX() {
            return has(size - 1) ? xs[size - 1] : 0;
        }

        int lastY() {
            return has(size - 1) ? ys[size - 1] : 0;
        }

        /** How much x changes from the place ahead to this one; 0 if there is none ahead. */
        int changeOfX(int place) {
            return has(place) && has(place - 1) ? xs[place] - xs[place - 1] : 0;
        }

        int changeOfY(int place) {
            return has(place) && has(place - 1) ? ys[place] - ys[place - 1] : 0;
        }

        int placesOfKind(int kind) {
            int found = 0;
            for (int i = 0; i < size; i++) {
                if (kinds[i] == kind) {
                    found++;
                }
            }
            return found;
        }

        int lengthInParts() {
            int sum = 0;
            for (int i = 1; i < size; i++) {
                long dx = changeOfX(i);
                long dy = changeOfY(i);
                sum += (int) rootOf(dx * dx + dy * dy);
            }
            return sum;
        }

        int nearestTo(long x, long y) {
            int best = 0;
            for (int i = 1; i < size; i++) {
                if (squaresTo(i, x, y) < squaresTo(best, x, y)) {
                    best = i;
                }
            }
            return best;
        }

        private long squaresTo(int place, long x, long y) {
            if (!has(place)) {
                return 0;
            }
            long dx = xs[place] - x;
            long dy = ys[place] - y;
            return dx * dx + dy * dy;
        }

        void copyFrom(Walk other) {
            start(other.sign, other.pace, other.parent, other.parentPlace);
            stuck = other.stuck;
            size = other.size;
            for (int i = 0; i < size; i++) {
                xs[i] = other.xs[i];
                ys[i] = other.ys[i];
                rounds[i] = other.rounds[i];
                kinds[i] = other.kinds[i];
            }
        }
    }

    /** The walks in their order; a parent always stands ahead of those that were begun from it. */
    private static final class Walks {
        private final Walk[] walks = new Walk[MOST_WALKS];
        private final boolean[] marked = new boolean[MOST_WALKS];
        private final int[] newNumbers = new int[MOST_WALKS];
        private int size;

        Walks() {
            for (int i = 0; i < MOST_WALKS; i++) {
                walks[i] = new Walk();
            }
        }

        /** The walk with a number, or null if there is none. */
        Walk at(int number) {
            return number >= 0 && number < size ? walks[number] : null;
        }

        boolean isFull() {
            return size >= MOST_WALKS;
        }

        /** Makes room for one more walk behind the others; null if there is none. */
        Walk addOne() {
            if (isFull()) {
                return null;
            }
            size++;
            return walks[size - 1];
        }

        void clear() {
            size = 0;
        }

        /** Marks a walk and all that were begun from it, from these, and so on; returns how many. */
        int markFamily(int number) {
            int family = 0;
            for (int i = 0; i < size; i++) {
                int parent = walks[i].parent;
                marked[i] = i == number || parent >= 0 && parent < i && marked[parent];
                if (marked[i]) {
                    family++;
                }
            }
            return family;
        }

        void removeFamily(int number) {
            markFamily(number);
            int kept = 0;
            for (int i = 0; i < size; i++) {
                if (marked[i]) {
                    continue;
                }
                newNumbers[i] = kept;
                Walk walk = walks[i];
                if (walk.parent >= 0 && walk.parent < i) {
                    walk.parent = newNumbers[walk.parent];
                }
                // Swapped rather than copied, so that every row stays in use.
                walks[i] = walks[kept];
                walks[kept] = walk;
                kept++;
            }
            size = kept;
        }

        int places() {
            int sum = 0;
            for (int i = 0; i < size; i++) {
                sum += walks[i].size;
            }
            return sum;
        }

        int placesOfKind(int kind) {
            int sum = 0;
            for (int i = 0; i < size; i++) {
                sum += walks[i].placesOfKind(kind);
            }
            return sum;
        }

        void copyFrom(Walks other) {
            size = other.size;
            for (int i = 0; i < size; i++) {
                walks[i].copyFrom(other.walks[i]);
            }
        }
    }

    /** The settings by their numbers. */
    private static final class Settings {
        private static final int FIRST_LENGTH = 0;
        private static final int GREATEST_LENGTH = 1;
        private static final int MOST_ROUNDS = 2;
        private static final int[] LEAST = {1, 1, 2};
        private static final int[] GREATEST = {64, 128, 20};

        private final int[] values = {16, 64, 8};

        static boolean allows(int what, int value) {
            return what >= 0 && what < LEAST.length && what < GREATEST.length
                && isWithin(value, LEAST[what], GREATEST[what]);
        }

        int at(int what) {
            return what >= 0 && what < values.length ? values[what] : 0;
        }

        /** Puts a value and returns the one that was there. */
        int replace(int what, int value) {
            if (!allows(what, value) || what >= values.length) {
                return 0;
            }
            int old = values[what];
            values[what] = value;
            return old;
        }

        void copyFrom(Settings other) {
            for (int i = 0; i < values.length && i < other.values.length; i++) {
                values[i] = other.values[i];
            }
        }
    }

    /** All that changes record and undo brings back. */
    private static final class State {
        private final Terms terms = new Terms();
        private final Walks walks = new Walks();
        private final Settings settings = new Settings();

        void copyFrom(State other) {
            terms.copyFrom(other.terms);
            walks.copyFrom(other.walks);
            settings.copyFrom(other.settings);
        }
    }

    /** The latest states, in a ring of rows that are used again. */
    private static final class History {
        private final State[] states = new State[MOST_STATES];
        private int oldest;
        private int size;

        History() {
            for (int i = 0; i < MOST_STATES; i++) {
                states[i] = new State();
            }
        }

        void keep(State state) {
            if (size >= MOST_STATES) {
                oldest = (oldest + 1) % MOST_STATES;
                size--;
            }
            size++;
            states[latest()].copyFrom(state);
        }

        /** Puts the latest state into the given one and removes it. */
        void restore(State state) {
            if (size <= 0) {
                return;
            }
            state.copyFrom(states[latest()]);
            size--;
        }

        private int latest() {
            return size <= 0 ? oldest : (oldest + size - 1) % MOST_STATES;
        }
    }

    /** The text that is typed. */
    private static final class Text {
        private final int[] characters = new int[MOST_CHARACTERS];
        private int length;

        boolean isFull() {
            return length >= MOST_CHARACTERS;
        }

        void append(int character) {
            if (isFull()) {
                return;
            }
            characters[length] = character;
            length++;
        }
    }

    /** Reads a text as a function, from the left to its first fault. */
    private static final class Reader {
        private static final int NO_FAULT = 0;
        private static final int MISPLACED = 1;
        private static final int FOURTH_LETTER = 2;
        private static final int SEVENTH_TERM = 3;

        private static final int AT_START = 0;
        private static final int BEHIND_SIGN = 1;
        private static final int IN_TERM = 2;

        private final Terms terms = new Terms();
        private int place;
        private int reason;
        private int phase;
        private int sign;
        private int digit;
        private int xLetters;
        private int yLetters;

        /** Leaves the fault's place and reason, or the terms if the reason is NO_FAULT. */
        void scan(Text text) {
            terms.clear();
            phase = AT_START;
            reason = NO_FAULT;
            openTerm(1);
            for (int i = 0; i < text.length; i++) {
                place = i;
                reason = take(text.characters[i]);
                if (reason != NO_FAULT) {
                    return;
                }
            }
            if (phase == IN_TERM) {
                closeTerm();
            } else {
                place = text.length;
                reason = MISPLACED;
            }
        }

        /** Goes on by one character; returns the reason why that is a fault, or NO_FAULT. */
        private int take(int character) {
            if (character == '+' || character == '-') {
                return takeSign(character == '-' ? -1 : 1);
            }
            if (character >= '1' && character <= '5') {
                return takeDigit(character - '0');
            }
            if (character == 'x' || character == 'y') {
                return takeLetter(character == 'x');
            }
            return MISPLACED;
        }

        private int takeSign(int taken) {
            if (phase == BEHIND_SIGN || phase == AT_START && taken == 1) {
                return MISPLACED;
            }
            if (phase == IN_TERM) {
                closeTerm();
                if (terms.isFull()) {
                    return SEVENTH_TERM;
                }
            }
            openTerm(taken);
            phase = BEHIND_SIGN;
            return NO_FAULT;
        }

        private int takeDigit(int taken) {
            if (phase == IN_TERM) {
                return MISPLACED;
            }
            digit = taken;
            phase = IN_TERM;
            return NO_FAULT;
        }

        private int takeLetter(boolean isX) {
            if (xLetters + yLetters >= MOST_POWER) {
                return FOURTH_LETTER;
            }
            if (isX) {
                xLetters++;
            } else {
                yLetters++;
            }
            phase = IN_TERM;
            return NO_FAULT;
        }

        private void openTerm(int newSign) {
            sign = newSign;
            digit = 1;
            xLetters = 0;
            yLetters = 0;
        }

        private void closeTerm() {
            terms.add(sign * digit, xLetters, yLetters);
        }
    }
}
