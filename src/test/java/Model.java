import java.math.BigInteger;
import java.util.ArrayList;
import java.util.List;

/**
 * The document told a second time, with lists, deep copies and exact numbers, so that the class can
 * be compared with it. It shares nothing with the class, and makes no effort to be quick or small.
 */
final class Model {
    static final int INVALID = -1000001;
    static final int NOT_POSSIBLE = -1000002;
    static final int LIMIT = -1000003;
    static final int NOT_FOUND = -1000004;

    record Term(int factor, int i, int j) {
    }

    record Place(int x, int y, int rounds, int kind) {
    }

    static final class Walk {
        List<Place> places = new ArrayList<>();
        int sign;
        int length;
        boolean stuck;
        Walk parent;
        int parentPlace;

        Place last() {
            return places.get(places.size() - 1);
        }

        boolean isOf(Walk ancestor) {
            return this == ancestor || parent != null && parent.isOf(ancestor);
        }
    }

    static final class State {
        List<Term> terms = new ArrayList<>();
        List<Walk> walks = new ArrayList<>();
        int[] settings = {16, 64, 8};

        State copy() {
            State other = new State();
            other.terms.addAll(terms);
            other.settings = settings.clone();
            for (Walk walk : walks) {
                Walk twin = new Walk();
                twin.places.addAll(walk.places);
                twin.sign = walk.sign;
                twin.length = walk.length;
                twin.stuck = walk.stuck;
                twin.parent = walk.parent == null ? null : other.walks.get(walks.indexOf(walk.parent));
                twin.parentPlace = walk.parentPlace;
                other.walks.add(twin);
            }
            return other;
        }
    }

    State now = new State();
    List<State> history = new ArrayList<>();
    String text = "";

    private void change() {
        history.add(now.copy());
        if (history.size() == 5) {
            history.remove(0);
        }
    }

    private static boolean in(int n, int least, int greatest) {
        return least <= n && n <= greatest;
    }

    private static boolean place(int x, int y) {
        return in(x, -1024, 1024) && in(y, -1024, 1024);
    }

    private static long pow(long base, int exponent) {
        return exponent == 0 ? 1 : Math.multiplyExact(base, pow(base, exponent - 1));
    }

    private static long times(long... numbers) {
        long product = 1;
        for (long number : numbers) {
            product = Math.multiplyExact(product, number);
        }
        return product;
    }

    long f(long x, long y) {
        long sum = 0;
        for (Term t : now.terms) {
            sum = Math.addExact(sum, times(t.factor, pow(x, t.i), pow(y, t.j), pow(256, 3 - t.i - t.j)));
        }
        return sum;
    }

    long gx(long x, long y) {
        long sum = 0;
        for (Term t : now.terms) {
            if (t.i > 0) {
                sum += times(t.factor, t.i, pow(x, t.i - 1), pow(y, t.j), pow(256, 3 - t.i - t.j));
            }
        }
        return sum;
    }

    long gy(long x, long y) {
        long sum = 0;
        for (Term t : now.terms) {
            if (t.j > 0) {
                sum += times(t.factor, t.j, pow(x, t.i), pow(y, t.j - 1), pow(256, 3 - t.i - t.j));
            }
        }
        return sum;
    }

    long g(long x, long y) {
        return Math.addExact(times(gx(x, y), gx(x, y)), times(gy(x, y), gy(x, y)));
    }

    private static long root(long square) {
        return BigInteger.valueOf(square).sqrt().longValueExact();
    }

    /** The corrected place, or null. */
    Place correct(long x, long y) {
        for (int round = 1; round <= now.settings[2]; round++) {
            if (x < -1024 || x > 1024 || y < -1024 || y > 1024 || g(x, y) == 0) {
                return null;
            }
            long newX = x - times(f(x, y), gx(x, y)) / g(x, y);
            long newY = y - times(f(x, y), gy(x, y)) / g(x, y);
            if (newX == x && newY == y) {
                return new Place((int) x, (int) y, round, 0);
            }
            x = newX;
            y = newY;
        }
        return null;
    }

    int term(int factor, int x, int y) {
        if (!in(factor, -5, 5) || factor == 0 || !in(x, 0, 3) || !in(y, 0, 3) || x + y > 3) {
            return INVALID;
        }
        if (now.terms.size() == 6) {
            return LIMIT;
        }
        change();
        now.terms.add(new Term(factor, x, y));
        now.walks.clear();
        return now.terms.size();
    }

    int dropTerm(int index) {
        if (index < 0) {
            return INVALID;
        }
        if (index >= now.terms.size()) {
            return NOT_POSSIBLE;
        }
        change();
        now.walks.clear();
        return now.terms.remove(index).factor;
    }

    int termOf(int index, int what) {
        if (index < 0 || !in(what, 0, 2)) {
            return INVALID;
        }
        if (index >= now.terms.size()) {
            return NOT_FOUND;
        }
        Term t = now.terms.get(index);
        return new int[] {t.factor, t.i, t.j}[what];
    }

    long value(int x, int y, int what) {
        if (!place(x, y) || !in(what, 0, 2)) {
            return INVALID;
        }
        return 1000000000000L + new long[] {f(x, y), gx(x, y), gy(x, y)}[what];
    }

    int corrected(int x, int y, int what) {
        if (!place(x, y) || !in(what, 0, 2)) {
            return INVALID;
        }
        Place p = correct(x, y);
        return p == null ? NOT_FOUND : new int[] {p.x, p.y, p.rounds}[what];
    }

    int begin(int x, int y, int sign) {
        if (!place(x, y) || sign != 1 && sign != -1) {
            return INVALID;
        }
        return beginAt(correct(x, y), sign, null, 0);
    }

    private int beginAt(Place p, int sign, Walk parent, int parentPlace) {
        if (p == null) {
            return NOT_POSSIBLE;
        }
        if (now.walks.size() == 5) {
            return LIMIT;
        }
        change();
        Walk walk = new Walk();
        walk.places.add(p);
        walk.sign = sign;
        walk.length = now.settings[0];
        walk.parent = parent;
        walk.parentPlace = parentPlace;
        now.walks.add(walk);
        return now.walks.size() - 1;
    }

    int branch(int walk, int place, int side) {
        if (!in(walk, 0, now.walks.size() - 1) || side != 1 && side != -1) {
            return INVALID;
        }
        Walk parent = now.walks.get(walk);
        if (!in(place, 0, parent.places.size() - 1)) {
            return INVALID;
        }
        Place k = parent.places.get(place);
        if (k.kind != 2) {
            return NOT_POSSIBLE;
        }
        Place before = parent.places.get(place - 1);
        long a = k.x - before.x;
        long b = k.y - before.y;
        long root = root(a * a + b * b);
        Place p = correct(k.x + now.settings[0] * -b * side / root, k.y + now.settings[0] * a * side / root);
        boolean ahead = p != null && (gx(p.x, p.y) * a + gy(p.x, p.y) * b) * side >= 0;
        return beginAt(p, ahead ? 1 : -1, parent, place);
    }

    int step(int number, int many) {
        if (!in(number, 0, now.walks.size() - 1) || !in(many, 1, 40)) {
            return INVALID;
        }
        if (walkOf(number, 3) != 0) {
            return NOT_POSSIBLE;
        }
        change();
        int added = 0;
        while (added < many && walkOf(number, 3) == 0) {
            added += stepOnce(now.walks.get(number));
        }
        return added;
    }

    private int stepOnce(Walk walk) {
        Place old = walk.last();
        while (walk.length > 0) {
            Place p = null;
            if (g(old.x, old.y) != 0) {
                long root = root(g(old.x, old.y));
                long moveX = times(walk.length, -gy(old.x, old.y), walk.sign) / root;
                long moveY = times(walk.length, gx(old.x, old.y), walk.sign) / root;
                p = correct(old.x + moveX, old.y + moveY);
            }
            if (p != null && (p.x != old.x || p.y != old.y)) {
                arrive(walk, old, p);
                return 1;
            }
            walk.length /= 2;
        }
        walk.stuck = true;
        return 0;
    }

    private void arrive(Walk walk, Place old, Place p) {
        long along = (gx(p.x, p.y) * (p.y - old.y) - gy(p.x, p.y) * (p.x - old.x)) * walk.sign;
        int kind = along < 0 ? 2 : times(gy(old.x, old.y), gy(p.x, p.y)) < 0 ? 1 : 0;
        if (kind == 2) {
            walk.sign = -walk.sign;
        }
        walk.places.add(new Place(p.x, p.y, p.rounds, kind));
        if (p.rounds <= 2) {
            walk.length = Math.min(2 * walk.length, now.settings[1]);
        }
        if (p.rounds >= 5) {
            walk.length = Math.max(walk.length / 2, 1);
        }
    }

    int drop(int number) {
        if (!in(number, 0, now.walks.size() - 1)) {
            return INVALID;
        }
        change();
        Walk dropped = now.walks.get(number);
        now.walks.removeIf(w -> w.isOf(dropped));
        return now.walks.size();
    }

    int set(int what, int value) {
        if (!in(what, 0, 2)) {
            return INVALID;
        }
        if (!in(value, new int[] {1, 1, 2}[what], new int[] {64, 128, 20}[what])) {
            return INVALID;
        }
        change();
        int old = now.settings[what];
        now.settings[what] = value;
        return old;
    }

    private static int ofKind(Walk walk, int kind) {
        return (int) walk.places.stream().filter(p -> p.kind == kind).count();
    }

    int walkOf(int number, int what) {
        if (!in(number, 0, now.walks.size() - 1) || !in(what, 0, 8)) {
            return INVALID;
        }
        Walk walk = now.walks.get(number);
        return switch (what) {
            case 0 -> walk.places.size();
            case 1 -> walk.sign;
            case 2 -> walk.length;
            case 3 -> walk.stuck ? 1 : walk.places.size() == 40 ? 2 : 0;
            case 4 -> ofKind(walk, 1);
            case 5 -> ofKind(walk, 2);
            case 6 -> walk.parent == null ? NOT_FOUND : now.walks.indexOf(walk.parent);
            case 7 -> walk.parent == null ? NOT_FOUND : walk.parentPlace;
            default -> (int) now.walks.stream().filter(w -> w.isOf(walk)).count() - 1;
        };
    }

    int placeOf(int number, int place, int what) {
        if (!in(number, 0, now.walks.size() - 1) || place < 0 || !in(what, 0, 3)) {
            return INVALID;
        }
        Walk walk = now.walks.get(number);
        if (place >= walk.places.size()) {
            return NOT_FOUND;
        }
        Place p = walk.places.get(place);
        return new int[] {p.x, p.y, p.rounds, p.kind}[what];
    }

    int count(int what) {
        return switch (what) {
            case 0 -> now.terms.size();
            case 1 -> now.walks.size();
            case 2 -> now.walks.stream().mapToInt(w -> w.places.size()).sum();
            case 3 -> now.walks.stream().mapToInt(w -> ofKind(w, 1)).sum();
            case 4 -> now.walks.stream().mapToInt(w -> ofKind(w, 2)).sum();
            case 5 -> history.size();
            case 6 -> text.length();
            case 10, 11, 12 -> now.settings[what - 10];
            default -> INVALID;
        };
    }

    int meets(int x) {
        if (!in(x, -1024, 1024)) {
            return INVALID;
        }
        List<Boolean> above = new ArrayList<>();
        for (int y = -1024; y <= 1024; y++) {
            long f = f(x, y);
            if (f != 0) {
                above.add(f > 0);
            }
        }
        int changes = 0;
        for (int i = 1; i < above.size(); i++) {
            if (!above.get(i).equals(above.get(i - 1))) {
                changes++;
            }
        }
        return changes;
    }

    int lengthBits(int number) {
        if (!in(number, 0, now.walks.size() - 1)) {
            return INVALID;
        }
        List<Place> places = now.walks.get(number).places;
        long sum = 0;
        for (int i = 1; i < places.size(); i++) {
            long dx = places.get(i).x - places.get(i - 1).x;
            long dy = places.get(i).y - places.get(i - 1).y;
            sum += root(dx * dx + dy * dy);
        }
        return Float.floatToIntBits((float) sum / 256f);
    }

    int nearest(int number, int x, int y) {
        if (!in(number, 0, now.walks.size() - 1) || !place(x, y)) {
            return INVALID;
        }
        List<Place> places = now.walks.get(number).places;
        int best = 0;
        for (int i = 1; i < places.size(); i++) {
            if (away(places.get(i), x, y) < away(places.get(best), x, y)) {
                best = i;
            }
        }
        return best;
    }

    private static long away(Place p, long x, long y) {
        return times(p.x - x, p.x - x) + times(p.y - y, p.y - y);
    }

    int undo() {
        if (history.isEmpty()) {
            return NOT_POSSIBLE;
        }
        now = history.remove(history.size() - 1);
        return history.size();
    }

    int type(int character) {
        if (!in(character, 32, 126)) {
            return INVALID;
        }
        if (text.length() == 60) {
            return LIMIT;
        }
        text += (char) character;
        return text.length();
    }

    int clearText() {
        int length = text.length();
        text = "";
        return length;
    }

    private static final String TERM = "([1-5][xy]{0,3}|[xy]{1,3})";
    private static final String BEGUN = "-?" + TERM + "([+-]" + TERM + "){0,5}";

    /** Whether a text without a fault can begin with this one. */
    private static boolean canGoOn(String text) {
        return text.matches(BEGUN) || (text + "x").matches(BEGUN);
    }

    /** Place and reason of the fault, or null. */
    int[] findFault() {
        for (int i = 0; i < text.length(); i++) {
            if (!canGoOn(text.substring(0, i + 1))) {
                String before = text.substring(0, i);
                boolean sign = "+-".indexOf(text.charAt(i)) >= 0;
                boolean letter = "xy".indexOf(text.charAt(i)) >= 0;
                boolean whole = before.matches(BEGUN);
                return new int[] {i, whole && sign ? 3 : whole && letter ? 2 : 1};
            }
        }
        return text.matches(BEGUN) ? null : new int[] {text.length(), 1};
    }

    int fault(int what) {
        if (!in(what, 0, 1)) {
            return INVALID;
        }
        int[] fault = findFault();
        return fault == null ? NOT_FOUND : fault[what];
    }

    int read() {
        if (findFault() != null) {
            return NOT_POSSIBLE;
        }
        change();
        now.walks.clear();
        now.terms.clear();
        for (String part : text.replace("-", "+-").split("\\+")) {
            if (!part.isEmpty()) {
                now.terms.add(parsed(part));
            }
        }
        return now.terms.size();
    }

    private static Term parsed(String part) {
        String digits = part.replaceAll("[-xy]", "");
        int factor = digits.isEmpty() ? 1 : Integer.parseInt(digits);
        return new Term(part.startsWith("-") ? -factor : factor,
            part.replaceAll("[^x]", "").length(), part.replaceAll("[^y]", "").length());
    }
}
