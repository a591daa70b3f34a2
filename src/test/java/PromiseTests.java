import java.lang.reflect.Constructor;
import java.lang.reflect.Field;
import java.lang.reflect.Method;
import java.lang.reflect.Modifier;
import java.util.TreeSet;

/** Promise by promise: ordinary inputs, the edges that the document names, and wrong inputs. */
public final class PromiseTests extends Due {
    public static void main(String[] args) {
        testFace();
        testNewObject();
        testTerm();
        testDropTerm();
        testTermOf();
        testValue();
        testCorrected();
        testBegin();
        testBranch();
        testBranchSigns();
        testStep();
        testStepAtBounds();
        testStepLengths();
        testStepToOldPlace();
        testFolds();
        testDrop();
        testSet();
        testWalkOf();
        testPlaceOf();
        testCount();
        testMeets();
        testLengthBits();
        testNearest();
        testUndo();
        testType();
        testClearText();
        testFault();
        testRead();
        testErrorsChangeNothing();
        testFullRows();
        end("all promises hold");
    }

    private static void testFace() {
        part = "face";
        TreeSet<String> names = new TreeSet<>();
        for (Method method : FoldWalks.class.getDeclaredMethods()) {
            if (!Modifier.isPrivate(method.getModifiers())) {
                names.add(method.toGenericString());
            }
        }
        TreeSet<String> wants = new TreeSet<>();
        String[] methods = {"int term(int,int,int)", "int dropTerm(int)", "int termOf(int,int)",
            "long value(int,int,int)", "int corrected(int,int,int)", "int begin(int,int,int)",
            "int branch(int,int,int)", "int step(int,int)", "int drop(int)", "int set(int,int)",
            "int walkOf(int,int)", "int placeOf(int,int,int)", "int count(int)", "int meets(int)",
            "int lengthBits(int)", "int nearest(int,int,int)", "int undo()", "int type(int)",
            "int clearText()", "int fault(int)", "int read()"};
        for (String method : methods) {
            wants.add("public " + method.replace(" ", " FoldWalks."));
        }
        due("the methods of the face are " + names + ", which", names.equals(wants) ? 1 : 0, 1);
        int fields = 0;
        for (Field field : FoldWalks.class.getDeclaredFields()) {
            fields += Modifier.isPrivate(field.getModifiers()) ? 0 : 1;
        }
        due("open fields", fields, 4);
        Constructor<?>[] constructors = FoldWalks.class.getDeclaredConstructors();
        due("constructors", constructors.length, 1);
        due("the class is final", Modifier.isFinal(FoldWalks.class.getModifiers()) ? 1 : 0, 1);
        due("INVALID_ARGUMENT", FoldWalks.INVALID_ARGUMENT, INVALID);
        due("NOT_POSSIBLE", FoldWalks.NOT_POSSIBLE, NOT_POSSIBLE);
        due("LIMIT_REACHED", FoldWalks.LIMIT_REACHED, LIMIT);
        due("NOT_FOUND", FoldWalks.NOT_FOUND, NOT_FOUND);
    }

    private static void testNewObject() {
        part = "promise 1";
        FoldWalks w = new FoldWalks();
        int[] wants = {0, 0, 0, 0, 0, 0, 0, INVALID, INVALID, INVALID, 16, 64, 8, INVALID};
        for (int what = 0; what < wants.length; what++) {
            due("count(" + what + ")", w.count(what), wants[what]);
        }
        for (int what = 0; what < 3; what++) {
            due("value(7, 9, " + what + ")", w.value(7, 9, what), SHIFT);
        }
        due("corrected(0, 0, 0)", w.corrected(0, 0, 0), NOT_FOUND);
        due("begin(0, 0, 1)", w.begin(0, 0, 1), NOT_POSSIBLE);
        due("meets(0)", w.meets(0), 0);
        due("undo()", w.undo(), NOT_POSSIBLE);
        due("fault(0)", w.fault(0), 0);
    }

    private static void testTerm() {
        part = "promise 2";
        FoldWalks w = new FoldWalks();
        int[][] bad = {{0, 1, 1}, {-6, 1, 1}, {6, 1, 1}, {1, -1, 1}, {1, 4, 0}, {1, 0, -1}, {1, 0, 4}, {1, 2, 2},
            {1, 3, 1}, {1, 1, 3}, {1, 3, 3}, {FAR[0], 0, 0}, {FAR[1], 0, 0}, {1, FAR[1], FAR[1]},
            {1, FAR[0], FAR[0]}, {1, 0, FAR[1]}};
        for (int[] b : bad) {
            due("term of wrong arguments", w.term(b[0], b[1], b[2]), INVALID);
        }
        due("count(0)", w.count(0), 0);
        due("term(5, 3, 0)", w.term(5, 3, 0), 1);
        due("term(-5, 0, 3)", w.term(-5, 0, 3), 2);
        due("term(1, 2, 1)", w.term(1, 2, 1), 3);
        due("term(2, 1, 2)", w.term(2, 1, 2), 4);
        due("term(2, 1, 2) again", w.term(2, 1, 2), 5);
        due("begin(500, 400, 1)", w.begin(500, 400, 1), 0);
        due("count(1)", w.count(1), 1);
        due("term(-1, 0, 0)", w.term(-1, 0, 0), 6);
        due("walks after term", w.count(1), 0);
        due("term(1, 0, 0) as the seventh", w.term(1, 0, 0), LIMIT);
        due("term(0, 0, 0) as the seventh", w.term(0, 0, 0), INVALID);
        dueTerm(w, 0, 5, 3, 0);
        dueTerm(w, 3, 2, 1, 2);
        dueTerm(w, 4, 2, 1, 2);
        dueTerm(w, 5, -1, 0, 0);
    }

    private static void testDropTerm() {
        part = "promise 3";
        FoldWalks w = of("2x-3y+4xy");
        due("begin(0, 0, 1)", w.begin(0, 0, 1), 0);
        due("dropTerm(-1)", w.dropTerm(-1), INVALID);
        due("dropTerm(min)", w.dropTerm(FAR[0]), INVALID);
        due("dropTerm(3)", w.dropTerm(3), NOT_POSSIBLE);
        due("dropTerm(max)", w.dropTerm(FAR[1]), NOT_POSSIBLE);
        due("walks still there", w.count(1), 1);
        due("dropTerm(1)", w.dropTerm(1), -3);
        due("walks after dropTerm", w.count(1), 0);
        due("terms left", w.count(0), 2);
        dueTerm(w, 0, 2, 1, 0);
        dueTerm(w, 1, 4, 1, 1);
        due("dropTerm(0)", w.dropTerm(0), 2);
        due("dropTerm(0)", w.dropTerm(0), 4);
        due("dropTerm(0) of none", w.dropTerm(0), NOT_POSSIBLE);
    }

    private static void testTermOf() {
        part = "promise 4";
        FoldWalks w = of("-4xyy");
        dueTerm(w, 0, -4, 1, 2, INVALID);
        due("termOf(0, -1)", w.termOf(0, -1), INVALID);
        due("termOf(-1, 0)", w.termOf(-1, 0), INVALID);
        due("termOf(1, 0)", w.termOf(1, 0), NOT_FOUND);
        due("termOf(1, 3)", w.termOf(1, 3), INVALID);
        due("termOf(max, 2)", w.termOf(FAR[1], 2), NOT_FOUND);
        due("termOf(min, 2)", w.termOf(FAR[0], 2), INVALID);
    }

    private static void testValue() {
        part = "promise 5";
        FoldWalks w = of("3xxy");
        due("value(-2, 5, 0)", w.value(-2, 5, 0), SHIFT + 60);
        due("value(-2, 5, 1)", w.value(-2, 5, 1), SHIFT - 60);
        due("value(-2, 5, 2)", w.value(-2, 5, 2), SHIFT + 12);
        w = of("2x-y+1");
        due("value(3, 4, 0)", w.value(3, 4, 0), SHIFT + 6 * 65536 - 4 * 65536 + 16777216);
        due("value(3, 4, 1)", w.value(3, 4, 1), SHIFT + 131072);
        due("value(3, 4, 2)", w.value(3, 4, 2), SHIFT - 65536);
        w = of("5xxx+5xxx+5xxx+5xxx+5xxx+5xxx");
        due("value(-1024, 0, 0)", w.value(-1024, 0, 0), SHIFT - 30L * 1024 * 1024 * 1024);
        due("value(1024, 0, 0)", w.value(1024, 0, 0), SHIFT + 30L * 1024 * 1024 * 1024);
        due("value(-1024, 0, 1)", w.value(-1024, 0, 1), SHIFT + 90L * 1024 * 1024);
        due("corrected(1024, 1024, 2) of it", w.corrected(1024, 1024, 2), NOT_FOUND);
        int[][] bad = {{1025, 0, 0}, {-1025, 0, 0}, {0, 1025, 0}, {0, -1025, 0}, {0, 0, -1}, {0, 0, 3},
            {FAR[0], 0, 0}, {0, FAR[1], 0}};
        for (int[] b : bad) {
            due("value of wrong arguments", w.value(b[0], b[1], b[2]), INVALID);
        }
        due("value(1024, -1024, 2)", w.value(1024, -1024, 2), SHIFT);
    }

    private static void testCorrected() {
        part = "promise 6";
        FoldWalks w = of("x");
        due("corrected(77, -1024, 0)", w.corrected(77, -1024, 0), 0);
        due("corrected(77, -1024, 1)", w.corrected(77, -1024, 1), -1024);
        due("corrected(77, -1024, 2)", w.corrected(77, -1024, 2), 2);
        due("corrected(0, 9, 2)", w.corrected(0, 9, 2), 1);
        int[][] bad = {{1025, 0, 0}, {-1025, 0, 0}, {0, 1025, 0}, {0, -1025, 0}, {0, 0, -1}, {0, 0, 3}};
        for (int[] b : bad) {
            due("corrected of wrong arguments", w.corrected(b[0], b[1], b[2]), INVALID);
        }
        w = of("xy");
        // (12, 16) comes to (5, 11), then to (1, 10), which stays.
        due("corrected(12, 16, 0)", w.corrected(12, 16, 0), 1);
        due("corrected(12, 16, 1)", w.corrected(12, 16, 1), 10);
        due("corrected(12, 16, 2)", w.corrected(12, 16, 2), 3);
        due("corrected(12, -16, 1)", w.corrected(12, -16, 1), -10);
        w.set(2, 2);
        due("corrected(12, 16, 0) in 2 rounds", w.corrected(12, 16, 0), NOT_FOUND);
        w.set(2, 3);
        due("corrected(12, 16, 0) in 3 rounds", w.corrected(12, 16, 0), 1);
        due("corrected(0, 0, 0) where G is 0", w.corrected(0, 0, 0), NOT_FOUND);
        w = of("xx+3");
        due("corrected(1, 0, 0) far beyond the bounds", w.corrected(1, 0, 0), NOT_FOUND);
        w = of("x+5");
        due("corrected(0, 0, 0) to -1280", w.corrected(0, 0, 0), NOT_FOUND);
        w = of("x+4");
        due("corrected(0, 0, 0) to -1024", w.corrected(0, 0, 0), -1024);
    }

    private static void testBegin() {
        part = "promise 7";
        FoldWalks w = of("y");
        due("begin(-1024, 1024, 1)", w.begin(-1024, 1024, 1), 0);
        duePlace(w, 0, 0, -1024, 0, 2, 0);
        dueWalk(w, 0, 1, 1, 16, 0, 0, 0, NOT_FOUND, NOT_FOUND, 0);
        w.set(0, 40);
        due("begin(5, 0, -1)", w.begin(5, 0, -1), 1);
        duePlace(w, 1, 0, 5, 0, 1, 0);
        dueWalk(w, 1, 1, -1, 40, 0, 0, 0, NOT_FOUND, NOT_FOUND, 0);
        int[][] bad = {{1025, 0, 1}, {-1025, 0, 1}, {0, 1025, 1}, {0, -1025, 1}, {0, 0, 0}, {0, 0, 2}, {0, 0, -2},
            {0, 0, FAR[0]}, {FAR[1], 0, 1}};
        for (int[] b : bad) {
            due("begin of wrong arguments", w.begin(b[0], b[1], b[2]), INVALID);
        }
        for (int i = 2; i < 5; i++) {
            due("begin(0, 0, 1)", w.begin(0, 0, 1), i);
        }
        due("begin as the sixth", w.begin(0, 0, 1), LIMIT);
        due("begin(0, 0, 0) as the sixth", w.begin(0, 0, 0), INVALID);
        w = of("xy");
        for (int i = 0; i < 5; i++) {
            due("begin(9, 0, 1)", w.begin(9, 0, 1), i);
        }
        due("begin(0, 0, 1) as the sixth, where G is 0", w.begin(0, 0, 1), NOT_POSSIBLE);
        due("begin(9, 0, 1) as the sixth", w.begin(9, 0, 1), LIMIT);
    }

    private static void testBranch() {
        part = "promise 8";
        FoldWalks w = crossed();
        duePlace(w, 0, 2, -52, 0, 1, 0);
        duePlace(w, 0, 3, 12, 0, 1, 2);
        duePlace(w, 0, 4, 76, 0, 1, 0);
        int[][] bad = {{-1, 3, 1}, {1, 3, 1}, {0, -1, 1}, {0, 5, 1}, {0, 3, 0}, {0, 3, 2}, {0, 3, -2}, {0, 0, 3},
            {FAR[1], 3, 1}, {0, FAR[1], 1}, {0, FAR[0], 1}};
        for (int[] b : bad) {
            due("branch of wrong arguments", w.branch(b[0], b[1], b[2]), INVALID);
        }
        due("branch(0, 0, 1)", w.branch(0, 0, 1), NOT_POSSIBLE);
        due("branch(0, 2, 1)", w.branch(0, 2, 1), NOT_POSSIBLE);
        due("branch(0, 4, 1)", w.branch(0, 4, 1), NOT_POSSIBLE);
        due("branch(0, 3, 1)", w.branch(0, 3, 1), 1);
        duePlace(w, 1, 0, 1, 10, 3, 0);
        dueWalk(w, 1, 1, 1, 16, 0, 0, 0, 0, 3, 0);
        due("branch(0, 3, -1)", w.branch(0, 3, -1), 2);
        duePlace(w, 2, 0, 1, -10, 3, 0);
        dueWalk(w, 2, 1, 1, 16, 0, 0, 0, 0, 3, 0);
        // The move is 16 times (-256, 2560) by 2572, which is (-1, 15).
        due("step(1, 1)", w.step(1, 1), 1);
        due("placeOf(1, 1, 1)", w.placeOf(1, 1, 1), 25);
        w.set(0, 10);
        due("branch(0, 3, 1) with the first length 10", w.branch(0, 3, 1), 3);
        due("walkOf(3, 2)", w.walkOf(3, 2), 10);
        w.begin(5, 0, 1);
        due("branch as the sixth", w.branch(0, 3, 1), LIMIT);
        due("branch from no crossing as the sixth", w.branch(0, 2, 1), NOT_POSSIBLE);
        w.set(2, 2);
        due("branch as the sixth, with a failing correction", w.branch(0, 3, 1), NOT_POSSIBLE);
        due("branch from no place as the sixth", w.branch(0, 5, 1), INVALID);
        w.drop(4);
        due("branch with a failing correction", w.branch(0, 3, 1), NOT_POSSIBLE);
    }

    private static void testBranchSigns() {
        part = "promise 8, signs";
        FoldWalks w = of("-xy");
        due("begin(-100, 0, -1)", w.begin(-100, 0, -1), 0);
        due("step(0, 3)", w.step(0, 3), 3);
        dueWalk(w, 0, 4, 1, 64, 0, 0, 1);
        due("branch(0, 3, 1)", w.branch(0, 3, 1), 1);
        duePlace(w, 1, 0, 1, 10, 3, 0);
        due("walkOf(1, 1)", w.walkOf(1, 1), -1);
        due("branch(0, 3, -1)", w.branch(0, 3, -1), 2);
        due("walkOf(2, 1)", w.walkOf(2, 1), -1);
        // The same crossing, come to from above: the change is (0, -64), the side 1 lies at (16, 12).
        w = of("xy");
        due("begin(0, 100, -1)", w.begin(0, 100, -1), 0);
        due("step(0, 3)", w.step(0, 3), 3);
        duePlace(w, 0, 3, 0, -12, 1, 2);
        dueWalk(w, 0, 4, 1, 64, 0, 0, 1);
        due("branch(0, 3, 1)", w.branch(0, 3, 1), 1);
        duePlace(w, 1, 0, 10, -1, 3, 0);
        due("walkOf(1, 1)", w.walkOf(1, 1), -1);
        due("branch(0, 3, -1)", w.branch(0, 3, -1), 2);
        duePlace(w, 2, 0, -10, -1, 3, 0);
        due("walkOf(2, 1)", w.walkOf(2, 1), -1);
    }

    private static void testStep() {
        part = "promise 9";
        FoldWalks w = of("y");
        due("begin(1000, 0, 1)", w.begin(1000, 0, 1), 0);
        int[][] bad = {{-1, 1}, {1, 1}, {0, 0}, {0, 41}, {0, -1}, {FAR[0], 1}, {0, FAR[1]}};
        for (int[] b : bad) {
            due("step of wrong arguments", w.step(b[0], b[1]), INVALID);
        }
        due("step(0, 3)", w.step(0, 3), 3);
        duePlace(w, 0, 1, 984, 0, 1, 0);
        duePlace(w, 0, 2, 952, 0, 1, 0);
        duePlace(w, 0, 3, 888, 0, 1, 0);
        dueWalk(w, 0, 4, 1, 64, 0, 0, 0);
        w.set(1, 20);
        due("step(0, 1) with a length above setting 1", w.step(0, 1), 1);
        due("placeOf(0, 4, 0)", w.placeOf(0, 4, 0), 824);
        due("walkOf(0, 2)", w.walkOf(0, 2), 20);
        due("step(0, 40) to the full walk", w.step(0, 40), 35);
        due("placeOf(0, 39, 0)", w.placeOf(0, 39, 0), 824 - 35 * 20);
        due("walkOf(0, 3)", w.walkOf(0, 3), 2);
        due("step(0, 1) of the full walk", w.step(0, 1), NOT_POSSIBLE);
        due("step(0, 0) of the full walk", w.step(0, 0), INVALID);
        w = of("y");
        w.begin(0, 0, -1);
        due("step(0, 1) with the sign -1", w.step(0, 1), 1);
        due("placeOf(0, 1, 0)", w.placeOf(0, 1, 0), 16);
    }

    private static void testStepAtBounds() {
        part = "promise 9, bounds";
        FoldWalks w = of("y");
        w.begin(-1000, 0, 1);
        due("step(0, 1)", w.step(0, 1), 1);
        due("walkOf(0, 2)", w.walkOf(0, 2), 32);
        // 32 and 16 lead beyond -1024, 8 just to it.
        due("step(0, 1)", w.step(0, 1), 1);
        dueWalk(w, 0, 3, 1, 16, 0);
        due("placeOf(0, 2, 0)", w.placeOf(0, 2, 0), -1024);
        due("step(0, 5) at the bound", w.step(0, 5), 0);
        dueWalk(w, 0, 3, 1, 0, 1);
        due("count(5) after a step that added none", w.count(5), 4);
        due("step(0, 1) of the stuck walk", w.step(0, 1), NOT_POSSIBLE);
        due("undo() of the step that added none", w.undo(), 3);
        dueWalk(w, 0, 3, 1, 16, 0);
        // From (32, 0) the length 32 would lead to (0, 0), where G is 0; 16 does not.
        w = of("xy");
        w.begin(48, 0, 1);
        due("step(0, 2)", w.step(0, 2), 2);
        duePlace(w, 0, 1, 32, 0, 1, 0);
        duePlace(w, 0, 2, 16, 0, 1, 0);
        due("length halved at (0, 0), then doubled", w.walkOf(0, 2), 32);
    }

    private static void testStepLengths() {
        part = "promise 9, lengths";
        FoldWalks w = of("xx-yy");
        w.set(0, 64);
        w.set(1, 128);
        due("begin(0, -100, 1)", w.begin(0, -100, 1), 0);
        int[] rounds = {7, 3, 1, 1, 1};
        int[] lengths = {32, 32, 64, 128, 128};
        for (int i = 0; i < rounds.length; i++) {
            due("step(0, 1)", w.step(0, 1), 1);
            due("rounds of place " + (i + 1), w.placeOf(0, i + 1, 2), rounds[i]);
            due("length after " + rounds[i] + " rounds", w.walkOf(0, 2), lengths[i]);
        }
        dueOneLength("xxx-xy", -51, -37, 64, 4, 64);
        dueOneLength("xxx-xy", -60, -13, 64, 5, 32);
        dueOneLength("y", 0, 0, 1, 1, 2);
        dueOneLength("xx+yy-1", 300, -20, 16, 2, 32);
        w = of("5xxy-xyy-4xxx-4xxx");
        w.set(0, 1);
        w.set(2, 20);
        due("begin(-17, -7, 1)", w.begin(-17, -7, 1), 0);
        due("step(0, 1)", w.step(0, 1), 1);
        due("rounds", w.placeOf(0, 1, 2), 7);
        due("length 1 after 7 rounds", w.walkOf(0, 2), 1);
    }

    /** The rounds of one step with the sign -1, and the length after it. */
    private static void dueOneLength(String function, int x, int y, int first, int rounds, int length) {
        FoldWalks w = of(function);
        w.set(0, first);
        w.set(1, 128);
        due("begin(" + x + ", " + y + ", -1)", w.begin(x, y, -1), 0);
        due("step(0, 1)", w.step(0, 1), 1);
        int got = w.placeOf(0, 1, 2);
        due("rounds", got, rounds);
        due("length after " + got + " rounds", w.walkOf(0, 2), length);
    }

    private static void testStepToOldPlace() {
        part = "promise 9, old place";
        // 45 degrees: a length of 1 moves by 0 in x and in y.
        FoldWalks w = of("x+y");
        w.set(0, 1);
        w.begin(0, 0, 1);
        due("step(0, 1)", w.step(0, 1), 0);
        dueWalk(w, 0, 1, 1, 0, 1);
        // Only x, or only y, changes.
        w = of("y");
        w.set(0, 1);
        w.begin(7, 0, 1);
        due("step(0, 1) along x", w.step(0, 1), 1);
        w = of("x");
        w.set(0, 1);
        w.begin(0, 7, 1);
        due("step(0, 1) along y", w.step(0, 1), 1);
        duePlace(w, 0, 1, 0, 8, 1, 0);
    }

    private static void testFolds() {
        part = "promise 9, folds";
        // The parabola x = yy turns back at (0, 0), where Gy changes its sign.
        FoldWalks w = of("yy-x");
        due("begin(16, 64, 1)", w.begin(16, 64, 1), 0);
        due("placeOf(0, 0, 0)", w.placeOf(0, 0, 0), 16);
        int steps = w.step(0, 40);
        int folds = 0;
        for (int i = 1; i <= steps; i++) {
            boolean turned = w.placeOf(0, i - 1, 1) > 0 && w.placeOf(0, i, 1) < 0;
            due("placeOf(0, " + i + ", 3)", w.placeOf(0, i, 3), turned ? 1 : 0);
            folds += turned ? 1 : 0;
        }
        due("walkOf(0, 4)", w.walkOf(0, 4), folds);
        due("folds", folds, 1);
        due("count(3)", w.count(3), 1);
        due("walkOf(0, 1) after the fold", w.walkOf(0, 1), 1);
    }

    private static void testDrop() {
        part = "promise 10";
        FoldWalks w = crossed();
        due("branch(0, 3, 1)", w.branch(0, 3, 1), 1);
        due("begin(-100, 0, 1)", w.begin(-100, 0, 1), 2);
        due("step(2, 3)", w.step(2, 3), 3);
        due("branch(2, 3, -1)", w.branch(2, 3, -1), 3);
        due("begin(9, 0, 1)", w.begin(9, 0, 1), 4);
        int[] families = {1, 0, 1, 0, 0, INVALID};
        for (int walk = 0; walk < 6; walk++) {
            due("walkOf(" + walk + ", 8)", w.walkOf(walk, 8), families[walk]);
        }
        due("drop(5)", w.drop(5), INVALID);
        due("drop(-1)", w.drop(-1), INVALID);
        due("drop(max)", w.drop(FAR[1]), INVALID);
        due("drop(0)", w.drop(0), 3);
        dueWalk(w, 0, 4, -1, 64, 0, 0, 1, NOT_FOUND, NOT_FOUND, 1);
        dueWalk(w, 1, 1, 1, 16, 0, 0, 0, 0, 3, 0);
        dueWalk(w, 2, 1, 1, 16, 0, 0, 0, NOT_FOUND, NOT_FOUND, 0);
        duePlace(w, 1, 0, 1, -10, 3, 0);
        duePlace(w, 2, 0, 9, 0, 1, 0);
        due("drop(1)", w.drop(1), 2);
        due("walkOf(0, 8)", w.walkOf(0, 8), 0);
        due("drop(1)", w.drop(1), 1);
        due("drop(0)", w.drop(0), 0);
        due("drop(0) of none", w.drop(0), INVALID);
        testDropOfGrandchildren();
    }

    private static void testDropOfGrandchildren() {
        FoldWalks w = of("xy");
        due("begin(500, 0, 1)", w.begin(500, 0, 1), 0);
        due("begin(-300, -200, 1)", w.begin(-300, -200, 1), 1);
        due("step(1, 12)", w.step(1, 12), 12);
        due("branch(1, 5, -1)", w.branch(1, 5, -1), 2);
        due("step(2, 12)", w.step(2, 12), 12);
        due("branch(2, 2, 1) of a branch", w.branch(2, 2, 1), 3);
        due("walkOf(1, 8)", w.walkOf(1, 8), 2);
        due("walkOf(2, 8)", w.walkOf(2, 8), 1);
        due("walkOf(3, 6)", w.walkOf(3, 6), 2);
        due("drop(0)", w.drop(0), 3);
        due("walkOf(0, 6)", w.walkOf(0, 6), NOT_FOUND);
        due("walkOf(1, 6)", w.walkOf(1, 6), 0);
        due("walkOf(1, 7)", w.walkOf(1, 7), 5);
        due("walkOf(2, 6)", w.walkOf(2, 6), 1);
        due("walkOf(2, 7)", w.walkOf(2, 7), 2);
        due("drop(0) with all that came of it", w.drop(0), 0);
    }

    private static void testSet() {
        part = "promise 11";
        FoldWalks w = of("y");
        w.begin(0, 0, 1);
        int[][] ranges = {{0, 1, 64, 16}, {1, 1, 128, 64}, {2, 2, 20, 8}};
        for (int[] r : ranges) {
            due("set(" + r[0] + ", least - 1)", w.set(r[0], r[1] - 1), INVALID);
            due("set(" + r[0] + ", greatest + 1)", w.set(r[0], r[2] + 1), INVALID);
            due("set(" + r[0] + ", least)", w.set(r[0], r[1]), r[3]);
            due("count of it", w.count(10 + r[0]), r[1]);
            due("set(" + r[0] + ", greatest)", w.set(r[0], r[2]), r[1]);
            due("set(" + r[0] + ", greatest) again", w.set(r[0], r[2]), r[2]);
            due("count of it", w.count(10 + r[0]), r[2]);
        }
        due("set(-1, 5)", w.set(-1, 5), INVALID);
        due("set(3, 5)", w.set(3, 5), INVALID);
        due("set(max, 5)", w.set(FAR[1], 5), INVALID);
        due("set(0, min)", w.set(0, FAR[0]), INVALID);
        due("walks stay", w.count(1), 1);
        due("lengths of walks stay", w.walkOf(0, 2), 16);
    }

    private static void testWalkOf() {
        part = "promise 12";
        FoldWalks w = crossed();
        dueWalk(w, 0, 5, -1, 64, 0, 0, 1, NOT_FOUND, NOT_FOUND, 0, INVALID);
        due("walkOf(0, -1)", w.walkOf(0, -1), INVALID);
        due("walkOf(-1, 0)", w.walkOf(-1, 0), INVALID);
        due("walkOf(1, 6)", w.walkOf(1, 6), INVALID);
        due("walkOf(max, 0)", w.walkOf(FAR[1], 0), INVALID);
        due("branch(0, 3, 1)", w.branch(0, 3, 1), 1);
        due("walkOf(0, 8)", w.walkOf(0, 8), 1);
        due("walkOf(1, 6)", w.walkOf(1, 6), 0);
        due("walkOf(1, 7)", w.walkOf(1, 7), 3);
    }

    private static void testPlaceOf() {
        part = "promise 13";
        FoldWalks w = crossed();
        duePlace(w, 0, 0, -100, 0, 1, 0, INVALID);
        duePlace(w, 0, 3, 12, 0, 1, 2);
        due("placeOf(0, 5, 0)", w.placeOf(0, 5, 0), NOT_FOUND);
        due("placeOf(0, 40, 0)", w.placeOf(0, 40, 0), NOT_FOUND);
        due("placeOf(0, max, 3)", w.placeOf(0, FAR[1], 3), NOT_FOUND);
        due("placeOf(0, 5, 4)", w.placeOf(0, 5, 4), INVALID);
        due("placeOf(0, 0, -1)", w.placeOf(0, 0, -1), INVALID);
        due("placeOf(0, -1, 0)", w.placeOf(0, -1, 0), INVALID);
        due("placeOf(1, 0, 0)", w.placeOf(1, 0, 0), INVALID);
        due("placeOf(-1, 0, 0)", w.placeOf(-1, 0, 0), INVALID);
    }

    private static void testCount() {
        part = "promise 14";
        FoldWalks w = crossed();
        w.begin(9, 0, 1);
        w.begin(-100, 0, 1);
        w.step(2, 3);
        int[] wants = {1, 3, 10, 0, 2, 4, 2, INVALID, INVALID, INVALID, 16, 64, 8, INVALID};
        for (int what = 0; what < wants.length; what++) {
            due("count(" + what + ")", w.count(what), wants[what]);
        }
        due("count(-1)", w.count(-1), INVALID);
        due("count(min)", w.count(FAR[0]), INVALID);
        due("count(max)", w.count(FAR[1]), INVALID);
        FoldWalks v = of("yy-x");
        for (int i = 0; i < 2; i++) {
            v.begin(16, 64, 1);
            v.step(i, 40);
        }
        due("count(3) of two walks", v.count(3), 2);
    }

    private static void testMeets() {
        part = "promise 15";
        FoldWalks w = of("yyy-4y");
        // The roots are y = -512, 0 and 512, where F is 0 itself.
        due("meets(-1024)", w.meets(-1024), 3);
        due("meets(1024)", w.meets(1024), 3);
        due("meets(1025)", w.meets(1025), INVALID);
        due("meets(-1025)", w.meets(-1025), INVALID);
        due("meets(min)", w.meets(FAR[0]), INVALID);
        w = of("yy-x");
        due("meets(-1)", w.meets(-1), 0);
        due("meets(0), touched", w.meets(0), 0);
        due("meets(1)", w.meets(1), 2);
        w = of("y-4");
        due("meets(0), 0 at the last place", w.meets(0), 0);
        w = of("y+x-4");
        due("meets(1), between the last two places", w.meets(1), 1);
        w = of("y+x+4");
        due("meets(-1), between the first two places", w.meets(-1), 1);
        w = of("2y-5-2");
        due("meets(0), between places", w.meets(0), 1);
        w = of("xy");
        due("meets(0), all 0", w.meets(0), 0);
        due("meets(-7)", w.meets(-7), 1);
    }

    private static void testLengthBits() {
        part = "promise 16";
        FoldWalks w = of("y");
        w.begin(-1000, 0, 1);
        due("lengthBits(0) of one place", w.lengthBits(0), 0);
        w.step(0, 40);
        due("lengthBits(0)", w.lengthBits(0), Float.floatToIntBits(24f / 256f));
        due("lengthBits(1)", w.lengthBits(1), INVALID);
        due("lengthBits(-1)", w.lengthBits(-1), INVALID);
        due("lengthBits(max)", w.lengthBits(FAR[1]), INVALID);
        w = of("y");
        w.set(0, 1);
        w.set(1, 1);
        w.begin(0, 0, 1);
        w.step(0, 1);
        due("lengthBits(0) of one part", w.lengthBits(0), Float.floatToIntBits(1f / 256f));
        w = of("y");
        w.set(1, 128);
        w.begin(1024, 0, 1);
        w.step(0, 40);
        due("lengthBits(0) from bound to bound", w.lengthBits(0), Float.floatToIntBits(8f));
        // 45 degrees: the roots of 11 * 11 * 2 = 242 and 22 * 22 * 2 = 968 are 15 and 31.
        w = of("x+y");
        w.begin(0, 0, 1);
        due("step(0, 2)", w.step(0, 2), 2);
        duePlace(w, 0, 1, -11, 11);
        duePlace(w, 0, 2, -33, 33);
        due("lengthBits(0)", w.lengthBits(0), Float.floatToIntBits(46f / 256f));
    }

    private static void testNearest() {
        part = "promise 17";
        FoldWalks w = of("y");
        w.begin(1000, 0, 1);
        w.step(0, 3);
        due("nearest(0, 1024, 1024)", w.nearest(0, 1024, 1024), 0);
        w.begin(0, 0, 1);
        due("nearest(1, 9, 9) of one place", w.nearest(1, 9, 9), 0);
        due("nearest(0, -1024, -1024)", w.nearest(0, -1024, -1024), 3);
        due("nearest(0, 967, 0)", w.nearest(0, 967, 0), 2);
        due("nearest(0, 969, 500)", w.nearest(0, 969, 500), 1);
        due("nearest(0, 968, 5), of two the first", w.nearest(0, 968, 5), 1);
        int[][] bad = {{2, 0, 0}, {-1, 0, 0}, {0, 1025, 0}, {0, -1025, 0}, {0, 0, 1025}, {0, 0, -1025},
            {0, FAR[0], 0}, {0, 0, FAR[1]}};
        for (int[] b : bad) {
            due("nearest of wrong arguments", w.nearest(b[0], b[1], b[2]), INVALID);
        }
        // The places are (0, 0), (-11, 11), (-33, 33).
        w = of("x+y");
        w.begin(0, 0, 1);
        w.step(0, 2);
        due("nearest(0, -10, 40)", w.nearest(0, -10, 40), 2);
        due("nearest(0, 10, -40)", w.nearest(0, 10, -40), 0);
        due("nearest(0, -30, 5)", w.nearest(0, -30, 5), 1);
        due("nearest(0, -5, 5)", w.nearest(0, -5, 5), 0);
        due("nearest(0, -6, 6)", w.nearest(0, -6, 6), 1);
    }

    private static void testUndo() {
        part = "promise 18";
        FoldWalks w = crossed();
        due("count(5)", w.count(5), 3);
        w.set(0, 20);
        w.branch(0, 3, 1);
        due("count(5), the oldest one dropped", w.count(5), 4);
        w.dropTerm(0);
        typeAll(w, "+1");
        due("undo() of dropTerm", w.undo(), 3);
        due("walks are back", w.count(1), 2);
        dueTerm(w, 0, 1, 1, 1);
        due("the text stays", w.count(6), 4);
        due("undo() of branch", w.undo(), 2);
        due("count(1)", w.count(1), 1);
        due("count(10)", w.count(10), 20);
        due("undo() of set", w.undo(), 1);
        due("count(10)", w.count(10), 16);
        due("undo() of step", w.undo(), 0);
        dueWalk(w, 0, 1, 1, 16, 0, 0, 0);
        due("undo() of an empty history", w.undo(), NOT_POSSIBLE);
        due("step(0, 4) again", w.step(0, 4), 4);
        duePlace(w, 0, 3, 12, 0, 1, 2);
        w.drop(0);
        w.begin(77, 0, -1);
        due("undo() of begin", w.undo(), 2);
        due("count(1)", w.count(1), 0);
        due("undo() of drop", w.undo(), 1);
        duePlace(w, 0, 0, -100, 0, 1, 0);
        duePlace(w, 0, 3, 12, 0, 1, 2);
        dueWalk(w, 0, 5, -1, 64, 0, 0, 1);
        due("read()", w.read(), 2);
        due("undo() of read", w.undo(), 1);
        due("count(0)", w.count(0), 1);
        due("count(1)", w.count(1), 1);
        due("set to what it is already", w.set(1, 64), 64);
        due("is a change", w.count(5), 2);
        w.term(1, 0, 0);
        due("undo() of term", w.undo(), 2);
        due("count(1)", w.count(1), 1);
    }

    private static void testType() {
        part = "promise 19";
        FoldWalks w = new FoldWalks();
        due("type(31)", w.type(31), INVALID);
        due("type(127)", w.type(127), INVALID);
        due("type(min)", w.type(FAR[0]), INVALID);
        due("type(max)", w.type(FAR[1]), INVALID);
        due("type(32)", w.type(32), 1);
        due("type(126)", w.type(126), 2);
        for (int length = 3; length <= 60; length++) {
            due("type(120)", w.type(120), length);
        }
        due("type(120) as the 61st", w.type(120), LIMIT);
        due("type(127) as the 61st", w.type(127), INVALID);
        due("count(6)", w.count(6), 60);
        due("type is no change", w.count(5), 0);
    }

    private static void testClearText() {
        part = "promise 20";
        FoldWalks w = of("x+y");
        due("clearText()", w.clearText(), 3);
        due("clearText() of the empty text", w.clearText(), 0);
        due("count(6)", w.count(6), 0);
        due("the function stays", w.count(0), 2);
        due("clearText is no change", w.count(5), 1);
        due("type(120)", w.type(120), 1);
        due("undo()", w.undo(), 0);
        due("the text is not undone", w.count(6), 1);
    }

    private static void dueFault(String text, int place, int reason) {
        FoldWalks w = new FoldWalks();
        typeAll(w, text);
        due("fault(0) of " + text, w.fault(0), place);
        due("fault(1) of " + text, w.fault(1), reason);
        due("fault(-1) of " + text, w.fault(-1), INVALID);
        due("fault(2) of " + text, w.fault(2), INVALID);
        due("read() of " + text, w.read(), place == NOT_FOUND ? 1 : NOT_POSSIBLE);
    }

    private static void testFault() {
        part = "promise 21";
        String[] good = {"x", "-y", "5", "-3", "2xyx", "yyy", "1xxx"};
        for (String text : good) {
            dueFault(text, NOT_FOUND, NOT_FOUND);
        }
        dueFault("", 0, 1);
        dueFault("-", 1, 1);
        dueFault("+x", 0, 1);
        dueFault("--x", 1, 1);
        dueFault("x+", 2, 1);
        dueFault("x+-y", 2, 1);
        dueFault("0", 0, 1);
        dueFault("6x", 0, 1);
        dueFault("12", 1, 1);
        dueFault("x2", 1, 1);
        dueFault("x y", 1, 1);
        dueFault("X", 0, 1);
        dueFault("xz", 1, 1);
        dueFault("xxx4", 3, 1);
        dueFault("xyxy", 3, 2);
        dueFault("2xyxy", 4, 2);
        dueFault("x-yyyy0", 5, 2);
        dueFault("xxxx+", 3, 2);
        dueFault("1+1+1+1+1+1+1", 11, 3);
        dueFault("1+1+1+1+1+1-", 11, 3);
        dueFault("1+1+1+1+1+1+q", 11, 3);
        dueFault("-1+1+1+1+1+1+1", 12, 3);
        dueFault("1+1+1+1+1+1q", 11, 1);
        dueFault("1+1+1+1+1+", 10, 1);
    }

    private static void testRead() {
        part = "promise 22";
        FoldWalks w = new FoldWalks();
        w.term(5, 0, 0);
        typeAll(w, "-xyy+3-5yyy+x-2xx-y");
        due("read()", w.read(), 6);
        dueTerm(w, 0, -1, 1, 2);
        dueTerm(w, 1, 3, 0, 0);
        dueTerm(w, 2, -5, 0, 3);
        dueTerm(w, 3, 1, 1, 0);
        dueTerm(w, 4, -2, 2, 0);
        dueTerm(w, 5, -1, 0, 1);
        due("the text stays", w.count(6), 19);
        due("count(5)", w.count(5), 2);
        due("read() again", w.read(), 6);
        w.clearText();
        due("read() of the empty text", w.read(), NOT_POSSIBLE);
        due("count(0)", w.count(0), 6);
        due("count(5)", w.count(5), 3);
        typeAll(w, "y");
        w.read();
        due("terms that are less", w.count(0), 1);
        dueTerm(w, 0, 1, 0, 1);
        w.begin(0, 0, 1);
        w.read();
        due("walks after read", w.count(1), 0);
    }

    private static void testErrorsChangeNothing() {
        part = "errors";
        FoldWalks w = crossed();
        int states = w.count(5);
        w.term(9, 0, 0);
        w.dropTerm(1);
        w.begin(0, 0, 1);
        w.begin(2000, 0, 1);
        w.branch(0, 2, 1);
        w.branch(7, 2, 1);
        w.step(0, 0);
        w.drop(1);
        w.set(0, 0);
        w.clearText();
        w.read();
        due("count(5)", w.count(5), states);
        due("count(1)", w.count(1), 1);
        due("count(2)", w.count(2), 5);
        due("undo()", w.undo(), states - 1);
        due("count(2)", w.count(2), 1);
    }

    /** Six terms, five full walks and five states in use at once. */
    private static void testFullRows() {
        part = "full rows";
        FoldWalks w = of("5y-y-y-y-y+y");
        due("meets(0) with six terms", w.meets(0), 1);
        due("value(0, 1, 2) with six terms", w.value(0, 1, 2), SHIFT + 2 * 65536);
        for (int walk = 0; walk < 5; walk++) {
            due("begin(1000, 0, 1)", w.begin(1000, 0, 1), walk);
            w.set(1, 20);
            due("step(" + walk + ", 40)", w.step(walk, 40), 39);
            dueWalk(w, walk, 40, 1, 20, 2, 0, 0, NOT_FOUND, NOT_FOUND, 0);
            due("nearest(" + walk + ", -1024, 0)", w.nearest(walk, -1024, 0), 39);
            due("lengthBits(" + walk + ")", w.lengthBits(walk), Float.floatToIntBits((16 + 38 * 20) / 256f));
            due("placeOf(" + walk + ", 39, 0)", w.placeOf(walk, 39, 0), 1000 - 16 - 38 * 20);
        }
        int[] wants = {6, 5, 200, 0, 0, 4, 12};
        for (int what = 0; what < wants.length; what++) {
            due("count(" + what + ")", w.count(what), wants[what]);
        }
        due("dropTerm(5)", w.dropTerm(5), 1);
        due("undo()", w.undo(), 3);
        for (int what = 0; what < 5; what++) {
            due("count(" + what + ")", w.count(what), wants[what]);
        }
        due("drop(4)", w.drop(4), 4);
        due("undo()", w.undo(), 3);
        due("placeOf(4, 39, 0)", w.placeOf(4, 39, 0), 1000 - 16 - 38 * 20);
        for (int left = 2; left >= 0; left--) {
            due("undo()", w.undo(), left);
        }
        due("count(1)", w.count(1), 4);
        due("count(2)", w.count(2), 160);
    }
}
