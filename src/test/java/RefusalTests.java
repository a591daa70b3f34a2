import java.util.ArrayDeque;
import java.util.ArrayList;
import java.util.List;

/** Changes, what is no change, refused calls, and the history: "Changes and errors", and undo. */
public final class RefusalTests extends Due {
    private interface Call {
        long on(FoldWalks w);
    }

    private interface Scene {
        FoldWalks make();
    }

    private record Named(String name, Call call, long answer) {
    }

    private static final List<Named> CALLS = new ArrayList<>();

    public static void main(String[] args) {
        testRefusedOnNothing();
        testRefusedOnWalks();
        testRefusedOnFull();
        testAskingChangesNothing();
        testTextsAreNoChanges();
        testChanges();
        testTextIsNotRecorded();
        testWalksGone();
        testMostStates();
        testHistoryTurns();
        testWholeStates();
        testReusedRows();
        testPrecedence();
        testCallsOfOneObject();
        testFarArguments();
        end("all refusals hold");
    }

    private static FoldWalks nothing() {
        return new FoldWalks();
    }

    /** A crossing at place 3 of walk 0, a branch from there, a stuck walk 2, a text without a fault. */
    private static FoldWalks walks() {
        FoldWalks w = crossed();
        w.branch(0, 3, 1);
        w.begin(1000, 0, -1);
        w.step(2, 40);
        due("walk 2 is stuck", w.walkOf(2, 3), 1);
        return w;
    }

    /** Six terms, five walks, the last one full, a full history, a full text with a fault. */
    private static FoldWalks full() {
        FoldWalks w = of("xy+xy-xy+xy-xy+xy");
        w.begin(-100, 0, 1);
        w.step(0, 4);
        w.branch(0, 3, 1);
        for (int walk = 2; walk < 5; walk++) {
            w.begin(-1000, 0, 1);
        }
        w.set(1, 16);
        w.step(4, 40);
        due("walk 4 is full", w.walkOf(4, 3), 2);
        due("the crossing", w.placeOf(0, 3, 3), 2);
        for (int length = w.count(6); length < 60; length++) {
            w.type('+');
        }
        return w;
    }

    private static void add(String name, long answer, Call call) {
        CALLS.add(new Named(name, call, answer));
    }

    /** Each of the calls answers as told, and leaves all as it was, the text and the history, too. */
    private static void dueNoChange(Scene scene) {
        String before = toldWhole(scene.make());
        for (Named named : CALLS) {
            FoldWalks w = scene.make();
            due(named.name, named.call.on(w), named.answer);
            dueSame("after " + named.name, toldWhole(w), before);
        }
        CALLS.clear();
    }

    private static void addWrongArguments() {
        add("term(0, 0, 0)", INVALID, w -> w.term(0, 0, 0));
        add("term(6, 0, 0)", INVALID, w -> w.term(6, 0, 0));
        add("term(1, 2, 2)", INVALID, w -> w.term(1, 2, 2));
        add("dropTerm(-1)", INVALID, w -> w.dropTerm(-1));
        add("termOf(-1, 0)", INVALID, w -> w.termOf(-1, 0));
        add("termOf(0, 3)", INVALID, w -> w.termOf(0, 3));
        add("value(0, 1025, 0)", INVALID, w -> w.value(0, 1025, 0));
        add("corrected(1025, 0, 0)", INVALID, w -> w.corrected(1025, 0, 0));
        add("begin(0, -1025, 1)", INVALID, w -> w.begin(0, -1025, 1));
        add("begin(0, 0, 0)", INVALID, w -> w.begin(0, 0, 0));
        add("branch(-1, 0, 1)", INVALID, w -> w.branch(-1, 0, 1));
        add("branch(5, 0, 1)", INVALID, w -> w.branch(5, 0, 1));
        add("step(-1, 1)", INVALID, w -> w.step(-1, 1));
        add("step(5, 1)", INVALID, w -> w.step(5, 1));
        add("step(0, 0)", INVALID, w -> w.step(0, 0));
        add("step(0, 41)", INVALID, w -> w.step(0, 41));
        add("drop(-1)", INVALID, w -> w.drop(-1));
        add("drop(5)", INVALID, w -> w.drop(5));
        add("set(0, 0)", INVALID, w -> w.set(0, 0));
        add("set(0, 65)", INVALID, w -> w.set(0, 65));
        add("set(1, 129)", INVALID, w -> w.set(1, 129));
        add("set(2, 1)", INVALID, w -> w.set(2, 1));
        add("set(3, 5)", INVALID, w -> w.set(3, 5));
        add("walkOf(5, 0)", INVALID, w -> w.walkOf(5, 0));
        add("walkOf(0, 9)", INVALID, w -> w.walkOf(0, 9));
        add("placeOf(0, -1, 0)", INVALID, w -> w.placeOf(0, -1, 0));
        add("count(7)", INVALID, w -> w.count(7));
        add("meets(-1025)", INVALID, w -> w.meets(-1025));
        add("lengthBits(5)", INVALID, w -> w.lengthBits(5));
        add("nearest(0, 0, 1025)", INVALID, w -> w.nearest(0, 0, 1025));
        add("type(31)", INVALID, w -> w.type(31));
        add("type(127)", INVALID, w -> w.type(127));
        add("fault(2)", INVALID, w -> w.fault(2));
    }

    private static void testRefusedOnNothing() {
        part = "a call that returns an error changes nothing: of a new object";
        addWrongArguments();
        add("dropTerm(0)", NOT_POSSIBLE, w -> w.dropTerm(0));
        add("termOf(0, 0)", NOT_FOUND, w -> w.termOf(0, 0));
        add("corrected(0, 0, 0)", NOT_FOUND, w -> w.corrected(0, 0, 0));
        add("begin(0, 0, 1)", NOT_POSSIBLE, w -> w.begin(0, 0, 1));
        add("branch(0, 0, 1)", INVALID, w -> w.branch(0, 0, 1));
        add("step(0, 1)", INVALID, w -> w.step(0, 1));
        add("drop(0)", INVALID, w -> w.drop(0));
        add("undo()", NOT_POSSIBLE, w -> w.undo());
        add("read()", NOT_POSSIBLE, w -> w.read());
        dueNoChange(RefusalTests::nothing);
    }

    private static void testRefusedOnWalks() {
        part = "a call that returns an error changes nothing: with walks";
        addWrongArguments();
        add("dropTerm(1)", NOT_POSSIBLE, w -> w.dropTerm(1));
        add("termOf(1, 0)", NOT_FOUND, w -> w.termOf(1, 0));
        add("corrected(0, 0, 0)", NOT_FOUND, w -> w.corrected(0, 0, 0));
        add("begin(0, 0, 1)", NOT_POSSIBLE, w -> w.begin(0, 0, 1));
        add("branch(0, 2, 1)", NOT_POSSIBLE, w -> w.branch(0, 2, 1));
        add("branch(0, 5, 1)", INVALID, w -> w.branch(0, 5, 1));
        add("branch(3, 0, 1)", INVALID, w -> w.branch(3, 0, 1));
        add("step(2, 1)", NOT_POSSIBLE, w -> w.step(2, 1));
        add("step(3, 1)", INVALID, w -> w.step(3, 1));
        add("drop(3)", INVALID, w -> w.drop(3));
        add("walkOf(0, 6)", NOT_FOUND, w -> w.walkOf(0, 6));
        add("walkOf(0, 7)", NOT_FOUND, w -> w.walkOf(0, 7));
        add("placeOf(0, 5, 0)", NOT_FOUND, w -> w.placeOf(0, 5, 0));
        add("fault(0)", NOT_FOUND, w -> w.fault(0));
        add("fault(1)", NOT_FOUND, w -> w.fault(1));
        dueNoChange(RefusalTests::walks);
    }

    private static void testRefusedOnFull() {
        part = "a call that returns an error changes nothing: when all is full";
        addWrongArguments();
        add("term(1, 0, 0)", LIMIT, w -> w.term(1, 0, 0));
        add("dropTerm(6)", NOT_POSSIBLE, w -> w.dropTerm(6));
        add("begin(9, 0, 1)", LIMIT, w -> w.begin(9, 0, 1));
        add("begin(0, 0, 1)", NOT_POSSIBLE, w -> w.begin(0, 0, 1));
        add("branch(0, 3, -1)", LIMIT, w -> w.branch(0, 3, -1));
        add("branch(0, 2, -1)", NOT_POSSIBLE, w -> w.branch(0, 2, -1));
        add("step(4, 1)", NOT_POSSIBLE, w -> w.step(4, 1));
        add("type(120)", LIMIT, w -> w.type('x'));
        add("read()", NOT_POSSIBLE, w -> w.read());
        dueNoChange(RefusalTests::full);
    }

    private static void testAskingChangesNothing() {
        part = "asking is no change";
        add("termOf(0, 2)", 1, w -> w.termOf(0, 2));
        add("value(3, 5, 0)", SHIFT + 15 * 256, w -> w.value(3, 5, 0));
        add("corrected(12, 16, 1)", 10, w -> w.corrected(12, 16, 1));
        add("walkOf(0, 8)", 1, w -> w.walkOf(0, 8));
        add("placeOf(0, 3, 3)", 2, w -> w.placeOf(0, 3, 3));
        add("count(2)", 9, w -> w.count(2));
        add("meets(5)", 1, w -> w.meets(5));
        add("lengthBits(1)", 0, w -> w.lengthBits(1));
        add("nearest(0, 1024, 3)", 4, w -> w.nearest(0, 1024, 3));
        dueNoChange(RefusalTests::walks);
        part = "asking for a fault is no change";
        add("fault(0)", 17, w -> w.fault(0));
        add("fault(1)", 3, w -> w.fault(1));
        dueNoChange(RefusalTests::full);
    }

    private static void testTextsAreNoChanges() {
        part = "type and clearText are no changes";
        FoldWalks w = walks();
        String before = told(w);
        int states = w.count(5);
        due("type(43)", w.type('+'), 3);
        due("clearText()", w.clearText(), 3);
        due("clearText()", w.clearText(), 0);
        due("count(5)", w.count(5), states);
        dueSame("the state", told(w), before);
    }

    private static void addChanges() {
        add("term(-2, 0, 3)", 2, w -> w.term(-2, 0, 3));
        add("dropTerm(0)", 1, w -> w.dropTerm(0));
        add("set(0, 40)", 16, w -> w.set(0, 40));
        add("set(2, 8), which is 8 already", 8, w -> w.set(2, 8));
        add("begin(7, 0, -1)", 3, w -> w.begin(7, 0, -1));
        add("branch(0, 3, -1)", 3, w -> w.branch(0, 3, -1));
        add("step(1, 5)", 5, w -> w.step(1, 5));
        add("drop(0)", 1, w -> w.drop(0));
        add("drop(2)", 2, w -> w.drop(2));
        add("read()", 1, w -> w.read());
    }

    private static void testChanges() {
        part = "each change records everything before it";
        addChanges();
        String before = told(walks());
        for (Named named : CALLS) {
            FoldWalks w = walks();
            due("undo()", w.undo(), 3);
            due("count(5)", w.count(5), 3);
            String earlier = told(w);
            due("begin(9, 0, 1)", w.begin(9, 0, 1), 3);
            due("undo()", w.undo(), 3);
            dueSame("undone begin", told(w), earlier);
            w = walks();
            due(named.name, named.call.on(w), named.answer);
            due("count(5) after " + named.name, w.count(5), 4);
            due("undo() of " + named.name, w.undo(), 3);
            dueSame("undone " + named.name, told(w), before);
            due("undo() of what was before " + named.name, w.undo(), 2);
            dueSame("undone twice", told(w), earlier);
        }
        CALLS.clear();
    }

    private static void testTextIsNotRecorded() {
        part = "everything before it but the text";
        addChanges();
        for (Named named : CALLS) {
            FoldWalks w = walks();
            named.call.on(w);
            due("count(6) after " + named.name, w.count(6), 2);
            due("type(43)", w.type('+'), 3);
            due("undo()", w.undo(), 3);
            due("count(6)", w.count(6), 3);
            due("fault(0)", w.fault(0), 3);
            due("type(121)", w.type('y'), 4);
            due("undo()", w.undo(), 2);
            due("read()", w.read(), 2);
            dueTerm(w, 0, 1, 1, 1);
            dueTerm(w, 1, 1, 0, 1);
        }
        CALLS.clear();
    }

    private static void testWalksGone() {
        part = "by term, dropTerm and read all walks are gone";
        FoldWalks w = walks();
        due("set(0, 9)", w.set(0, 9), 16);
        due("count(1) after set", w.count(1), 3);
        due("count(2) after set", w.count(2), 9);
        w.type('+');
        due("read() with a fault", w.read(), NOT_POSSIBLE);
        due("dropTerm(1)", w.dropTerm(1), NOT_POSSIBLE);
        due("term(0, 1, 1)", w.term(0, 1, 1), INVALID);
        due("count(1) after refused calls", w.count(1), 3);
        List<Call> calls = List.of(v -> v.term(1, 0, 0), v -> v.dropTerm(0), v -> v.read());
        for (Call call : calls) {
            w = walks();
            call.on(w);
            for (int what = 1; what <= 4; what++) {
                due("count(" + what + ")", w.count(what), 0);
            }
            due("walkOf(0, 0)", w.walkOf(0, 0), INVALID);
        }
    }

    private static void testMostStates() {
        part = "a history of at most 4 states";
        FoldWalks w = new FoldWalks();
        due("undo() of an empty history", w.undo(), NOT_POSSIBLE);
        for (int n = 1; n <= 7; n++) {
            due("set(0, " + n + ")", w.set(0, n), n == 1 ? 16 : n - 1);
            due("count(5)", w.count(5), Math.min(n, 4));
        }
        for (int left = 3; left >= 0; left--) {
            due("undo()", w.undo(), left);
            due("count(5)", w.count(5), left);
            due("count(10)", w.count(10), 3 + left);
        }
        due("undo() of the empty history", w.undo(), NOT_POSSIBLE);
        due("count(10), the older states being dropped", w.count(10), 3);
        due("count(5)", w.count(5), 0);
        for (int n = 1; n <= 4; n++) {
            w.set(1, n);
        }
        due("count(5) of just 4 states", w.count(5), 4);
        for (int left = 3; left >= 0; left--) {
            due("undo()", w.undo(), left);
        }
        due("count(11), none of 4 being dropped", w.count(11), 64);
    }

    private static void testHistoryTurns() {
        part = "the history, filled and emptied many times";
        FoldWalks w = new FoldWalks();
        ArrayDeque<Integer> states = new ArrayDeque<>();
        int value = 16;
        for (int n = 0; n < 160; n++) {
            if (n * n % 7 < 4) {
                states.addLast(value);
                if (states.size() == 5) {
                    states.removeFirst();
                }
                due("set(0, " + (1 + n % 60) + ")", w.set(0, 1 + n % 60), value);
                value = 1 + n % 60;
            } else if (states.isEmpty()) {
                due("undo()", w.undo(), NOT_POSSIBLE);
            } else {
                value = states.removeLast();
                due("undo()", w.undo(), states.size());
            }
            due("count(5)", w.count(5), states.size());
            due("count(10)", w.count(10), value);
        }
    }

    private static void testWholeStates() {
        part = "restores the latest state";
        FoldWalks w = walks();
        List<String> told = new ArrayList<>();
        List<Call> calls = List.of(v -> v.step(1, 3), v -> v.drop(2), v -> v.set(2, 20), v -> v.term(3, 1, 0));
        for (Call call : calls) {
            told.add(told(w));
            due("the change is made", call.on(w) >= 0 ? 1 : 0, 1);
        }
        for (int left = 3; left >= 0; left--) {
            due("undo()", w.undo(), left);
            dueSame("state " + left, told(w), told.get(left));
        }
        due("undo()", w.undo(), NOT_POSSIBLE);
        dueSame("the last state", told(w), told.get(0));
        due("step(1, 3) once more", w.step(1, 3), 3);
        dueSame("the state of the first change", told(w), told.get(1));
    }

    /** Walks of other places, rounds, kinds, signs, lengths and parents stand where the undone ones stood. */
    private static void testReusedRows() {
        part = "restores walks whose numbers others have had";
        FoldWalks w = walks();
        w.step(1, 6);
        String before = told(w);
        due("drop(0)", w.drop(0), 1);
        due("drop(0)", w.drop(0), 0);
        due("begin(3, -700, -1)", w.begin(3, -700, -1), 0);
        due("step(0, 40)", w.step(0, 40), 32);
        due("crossings", w.walkOf(0, 5), 1);
        due("undo()", w.undo(), 3);
        due("undo()", w.undo(), 2);
        due("undo()", w.undo(), 1);
        due("undo()", w.undo(), 0);
        dueSame("the state", told(w), before);
        // The same with terms and settings, which read and set put in the place of others.
        w = of("5xxx-4y");
        before = told(w);
        w.clearText();
        typeAll(w, "y+2xy");
        due("read()", w.read(), 2);
        due("set(0, 9)", w.set(0, 9), 16);
        due("set(1, 9)", w.set(1, 9), 64);
        due("set(2, 9)", w.set(2, 9), 8);
        for (int left = 3; left >= 0; left--) {
            due("undo()", w.undo(), left);
        }
        dueSame("the state", told(w), before);
    }

    private static void testPrecedence() {
        part = "if several errors apply";
        FoldWalks w = full();
        due("term(0, 0, 0), INVALID before LIMIT", w.term(0, 0, 0), INVALID);
        due("term(1, 3, 1), INVALID before LIMIT", w.term(1, 3, 1), INVALID);
        due("termOf(6, 3), INVALID before NOT_FOUND", w.termOf(6, 3), INVALID);
        due("corrected(0, 0, 3), INVALID before NOT_FOUND", w.corrected(0, 0, 3), INVALID);
        due("begin(0, 0, 2), INVALID before NOT_POSSIBLE", w.begin(0, 0, 2), INVALID);
        due("begin(9, 0, 2), INVALID before LIMIT", w.begin(9, 0, 2), INVALID);
        due("begin(0, 0, 1), NOT_POSSIBLE before LIMIT", w.begin(0, 0, 1), NOT_POSSIBLE);
        due("branch(0, 0, 2), INVALID before NOT_POSSIBLE", w.branch(0, 0, 2), INVALID);
        due("branch(0, 3, 2), INVALID before LIMIT", w.branch(0, 3, 2), INVALID);
        due("branch(0, 0, 1), NOT_POSSIBLE before LIMIT", w.branch(0, 0, 1), NOT_POSSIBLE);
        due("step(4, 0), INVALID before NOT_POSSIBLE", w.step(4, 0), INVALID);
        due("placeOf(4, 40, 4), INVALID before NOT_FOUND", w.placeOf(4, 40, 4), INVALID);
        due("walkOf(4, 9), INVALID", w.walkOf(4, 9), INVALID);
        due("type(200), INVALID before LIMIT", w.type(200), INVALID);
        w.clearText();
        w.type('x');
        due("fault(-1), INVALID before NOT_FOUND", w.fault(-1), INVALID);
        w = of("xy");
        w.set(2, 2);
        due("begin(12, 16, 1), NOT_POSSIBLE", w.begin(12, 16, 1), NOT_POSSIBLE);
    }

    private static void testCallsOfOneObject() {
        part = "at most 512 calls";
        FoldWalks w = of("y");
        int value = 8;
        for (int calls = 2; calls + 4 <= 510; calls += 4) {
            due("begin(500, 0, 1)", w.begin(500, 0, 1), 0);
            due("step(0, 40)", w.step(0, 40), 26);
            due("drop(0)", w.drop(0), 0);
            due("set(2, ..)", w.set(2, 2 + calls % 19), value);
            value = 2 + calls % 19;
        }
        due("count(5) as call 511", w.count(5), 4);
        due("undo() as call 512", w.undo(), 3);
    }

    /** No call throws, whatever it is given; what is beyond its range is refused. */
    private static void testFarArguments() {
        part = "any arguments in any state";
        int[] far = {Integer.MIN_VALUE, Integer.MIN_VALUE + 1, -2147482623, -65536, -1025, -6, -2, 41, 129, 1025, 65536,
            2147482623, Integer.MAX_VALUE - 1, Integer.MAX_VALUE};
        List<Scene> scenes = List.of(RefusalTests::nothing, RefusalTests::walks, RefusalTests::full);
        for (Scene scene : scenes) {
            FoldWalks w = scene.make();
            String before = toldWhole(scene.make());
            for (int n : far) {
                dueFarFunctions(w, n);
                dueFarWalks(w, n, n);
                dueFarWalks(w, n, 0);
                dueFarWalks(w, n, 1);
            }
            dueSame("after far arguments", toldWhole(w), before);
        }
    }

    private static void dueFarFunctions(FoldWalks w, int far) {
        due("term(1, far, far)", w.term(1, far, far), INVALID);
        due("term(1, far, 0)", w.term(1, far, 0), INVALID);
        due("term(1, 0, far)", w.term(1, 0, far), INVALID);
        due("term(far, 0, 0)", w.term(far == -2 ? 6 : far, 0, 0), INVALID);
        due("dropTerm(far)", w.dropTerm(far), far < 0 ? INVALID : NOT_POSSIBLE);
        due("termOf(far, 0)", w.termOf(far, 0), far < 0 ? INVALID : NOT_FOUND);
        due("termOf(0, far)", w.termOf(0, far), INVALID);
        due("value(0, 0, far)", w.value(0, 0, far), INVALID);
        due("corrected(0, 0, far)", w.corrected(0, 0, far), INVALID);
        boolean place = far >= -1024 && far <= 1024;
        due("value(far, 0, 0) is refused", w.value(far, 0, 0) == INVALID ? 1 : 0, place ? 0 : 1);
        due("value(0, far, 0) is refused", w.value(0, far, 0) == INVALID ? 1 : 0, place ? 0 : 1);
        due("corrected(far, 0, 0) is refused", w.corrected(far, 0, 0) == INVALID ? 1 : 0, place ? 0 : 1);
        due("corrected(0, far, 0) is refused", w.corrected(0, far, 0) == INVALID ? 1 : 0, place ? 0 : 1);
        due("meets(far) is refused", w.meets(far) == INVALID ? 1 : 0, place ? 0 : 1);
        due("count(far)", w.count(far), INVALID);
        due("fault(far)", w.fault(far), INVALID);
        due("type(far)", w.type(far == 41 ? 31 : far), INVALID);
    }

    private static void dueFarWalks(FoldWalks w, int far, int other) {
        due("begin(0, 0, far)", w.begin(0, 0, far), INVALID);
        due("branch(far, other, 1)", w.branch(far, other, 1), INVALID);
        due("branch(0, other, far)", w.branch(0, other, far), INVALID);
        due("branch(other, far, 1)", w.branch(other, far, 1), INVALID);
        due("step(far, other)", w.step(far, other), INVALID);
        due("step(other, far)", w.step(other, far), INVALID);
        due("drop(far)", w.drop(far), INVALID);
        due("set(far, other)", w.set(far, other), INVALID);
        due("walkOf(far, other)", w.walkOf(far, other), INVALID);
        due("walkOf(other, far)", w.walkOf(other, far), INVALID);
        due("placeOf(far, other, other)", w.placeOf(far, other, other), INVALID);
        due("placeOf(other, other, far)", w.placeOf(other, other, far), INVALID);
        due("lengthBits(far)", w.lengthBits(far), INVALID);
        due("nearest(far, other, other)", w.nearest(far, other, other), INVALID);
    }
}
