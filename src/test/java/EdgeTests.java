/** The edges of single calls: ranges of arguments, lines, lengths, nearest places, texts. */
public final class EdgeTests extends Due {
    private interface Call {
        long on(FoldWalks w, int argument);
    }

    public static void main(String[] args) {
        testRangesOfFunctions();
        testRangesOfWalks();
        testRangesOfAnswers();
        testNoSuchWalk();
        testTwoObjects();
        testDroppedTerms();
        testTermsThatAreNot();
        testCorners();
        testMostWalks();
        testDropOrder();
        testDropOfBranches();
        testPlaceThatIsNot();
        testLines();
        testLineBounds();
        testSumsOfLengths();
        testRoots();
        testNearest();
        testNextCharacters();
        testEarlyEnds();
        testFirstFault();
        testLongestTexts();
        testFullText();
        testReadFactors();
        end("all edges hold");
    }

    /** x times y with a walk through the crossing, which stands at place 3, and a branch from there. */
    private static FoldWalks scene() {
        FoldWalks w = crossed();
        due("branch(0, 3, 1)", w.branch(0, 3, 1), 1);
        return w;
    }

    private static void dueRange(String what, int least, int greatest, Call call) {
        part = "range of " + what;
        for (long n : new long[] {least - 2L, least - 1L, least, greatest, greatest + 1L, greatest + 2L}) {
            if (n == (int) n) {
                boolean refused = call.on(scene(), (int) n) == INVALID;
                due("the call with " + n + " is refused", refused ? 1 : 0, n < least || n > greatest ? 1 : 0);
            }
        }
        for (int n : FAR) {
            boolean refused = call.on(scene(), n) == INVALID;
            due("the call with " + n + " is refused", refused ? 1 : 0, n < least || n > greatest ? 1 : 0);
        }
    }

    private static void testRangesOfFunctions() {
        dueRange("term, x", 0, 3, (w, n) -> w.term(1, n, 0));
        dueRange("term, y", 0, 3, (w, n) -> w.term(1, 0, n));
        dueRange("term, y beside xx", 0, 1, (w, n) -> w.term(1, 2, n));
        dueRange("term, x beside yyy", 0, 0, (w, n) -> w.term(1, n, 3));
        dueRange("dropTerm, index", 0, Integer.MAX_VALUE, (w, n) -> w.dropTerm(n));
        dueRange("termOf, index", 0, Integer.MAX_VALUE, (w, n) -> w.termOf(n, 0));
        dueRange("termOf, what", 0, 2, (w, n) -> w.termOf(0, n));
        dueRange("value, x", -1024, 1024, (w, n) -> w.value(n, 5, 0));
        dueRange("value, y", -1024, 1024, (w, n) -> w.value(5, n, 0));
        dueRange("value, what", 0, 2, (w, n) -> w.value(5, 5, n));
        dueRange("corrected, x", -1024, 1024, (w, n) -> w.corrected(n, 5, 0));
        dueRange("corrected, y", -1024, 1024, (w, n) -> w.corrected(5, n, 0));
        dueRange("corrected, what", 0, 2, (w, n) -> w.corrected(5, 5, n));
    }

    private static void testRangesOfWalks() {
        dueRange("begin, x", -1024, 1024, (w, n) -> w.begin(n, 0, 1));
        dueRange("begin, y", -1024, 1024, (w, n) -> w.begin(0, n, 1));
        dueRange("begin, sign above", 1, 1, (w, n) -> n == -1 ? INVALID : w.begin(9, 0, n));
        dueRange("begin, sign below", -1, -1, (w, n) -> n == 1 ? INVALID : w.begin(9, 0, n));
        dueRange("branch, walk", 0, 1, (w, n) -> w.branch(n, 0, 1));
        dueRange("branch, place", 0, 4, (w, n) -> w.branch(0, n, 1));
        dueRange("branch, place of one", 0, 0, (w, n) -> w.branch(1, n, 1));
        dueRange("branch, side above", 1, 1, (w, n) -> n == -1 ? INVALID : w.branch(0, 3, n));
        dueRange("branch, side below", -1, -1, (w, n) -> n == 1 ? INVALID : w.branch(0, 3, n));
        dueRange("step, walk", 0, 1, (w, n) -> w.step(n, 1));
        dueRange("step, many", 1, 40, (w, n) -> w.step(0, n));
        dueRange("drop, walk", 0, 1, (w, n) -> w.drop(n));
        dueRange("set, what", 0, 2, (w, n) -> w.set(n, 5));
        dueRange("set, value of 0", 1, 64, (w, n) -> w.set(0, n));
        dueRange("set, value of 1", 1, 128, (w, n) -> w.set(1, n));
        dueRange("set, value of 2", 2, 20, (w, n) -> w.set(2, n));
    }

    private static void testRangesOfAnswers() {
        dueRange("walkOf, walk", 0, 1, (w, n) -> w.walkOf(n, 0));
        dueRange("walkOf, what", 0, 8, (w, n) -> w.walkOf(0, n));
        dueRange("walkOf, what of a branch", 0, 8, (w, n) -> w.walkOf(1, n));
        dueRange("placeOf, walk", 0, 1, (w, n) -> w.placeOf(n, 0, 0));
        dueRange("placeOf, place", 0, Integer.MAX_VALUE, (w, n) -> w.placeOf(0, n, 0));
        dueRange("placeOf, what", 0, 3, (w, n) -> w.placeOf(0, 0, n));
        dueRange("count, what", 0, 6, (w, n) -> n >= 10 ? INVALID : w.count(n));
        dueRange("count, what of settings", 10, 12, (w, n) -> n < 7 ? INVALID : w.count(n));
        dueRange("meets, x", -1024, 1024, (w, n) -> w.meets(n));
        dueRange("lengthBits, walk", 0, 1, (w, n) -> w.lengthBits(n));
        dueRange("nearest, walk", 0, 1, (w, n) -> w.nearest(n, 0, 0));
        dueRange("nearest, x", -1024, 1024, (w, n) -> w.nearest(0, n, 0));
        dueRange("nearest, y", -1024, 1024, (w, n) -> w.nearest(0, 0, n));
        dueRange("type, character", 32, 126, (w, n) -> w.type(n));
        dueRange("fault, what", 0, 1, (w, n) -> w.fault(n));
    }

    private static void dueNoWalk(FoldWalks w, int walk) {
        due("branch(" + walk + ", 0, 1)", w.branch(walk, 0, 1), INVALID);
        due("step(" + walk + ", 1)", w.step(walk, 1), INVALID);
        due("drop(" + walk + ")", w.drop(walk), INVALID);
        due("lengthBits(" + walk + ")", w.lengthBits(walk), INVALID);
        due("nearest(" + walk + ", 0, 0)", w.nearest(walk, 0, 0), INVALID);
        for (int what = 0; what <= 8; what++) {
            due("walkOf(" + walk + ", " + what + ")", w.walkOf(walk, what), INVALID);
        }
        for (int what = 0; what <= 3; what++) {
            due("placeOf(" + walk + ", 0, " + what + ")", w.placeOf(walk, 0, what), INVALID);
            due("placeOf(" + walk + ", 40, " + what + ")", w.placeOf(walk, 40, what), INVALID);
        }
    }

    private static void testNoSuchWalk() {
        part = "if there is no walk with a certain number";
        dueNoWalk(new FoldWalks(), 0);
        dueNoWalk(of("xy"), 0);
        int[] numbers = {-1, 2, 5, Integer.MIN_VALUE, Integer.MAX_VALUE};
        for (int number : numbers) {
            dueNoWalk(scene(), number);
        }
        FoldWalks w = scene();
        w.drop(1);
        dueNoWalk(w, 1);
        w = scene();
        w.undo();
        dueNoWalk(w, 1);
        w = scene();
        w.term(1, 0, 0);
        dueNoWalk(w, 0);
        w = scene();
        w.dropTerm(0);
        dueNoWalk(w, 0);
        w = scene();
        w.read();
        dueNoWalk(w, 0);
    }

    private static void testTwoObjects() {
        part = "a new object beside another one";
        FoldWalks other = scene();
        other.set(0, 3);
        FoldWalks w = new FoldWalks();
        int[] wants = {0, 0, 0, 0, 0, 0, 0, INVALID, INVALID, INVALID, 16, 64, 8, INVALID};
        for (int what = 0; what < wants.length; what++) {
            due("count(" + what + ")", w.count(what), wants[what]);
        }
        w.term(2, 1, 0);
        w.set(1, 9);
        w.type('x');
        due("count(0) of the other one", other.count(0), 1);
        due("count(1) of the other one", other.count(1), 2);
        due("count(6) of the other one", other.count(6), 2);
        due("count(11) of the other one", other.count(11), 64);
    }

    private static void testDroppedTerms() {
        part = "those behind it have numbers that are less by 1";
        for (int dropped = 0; dropped < 6; dropped++) {
            FoldWalks w = of("1-2x+3y-4xx+5xy-yy");
            int[][] terms = {{1, 0, 0}, {-2, 1, 0}, {3, 0, 1}, {-4, 2, 0}, {5, 1, 1}, {-1, 0, 2}};
            due("dropTerm(6)", w.dropTerm(6), NOT_POSSIBLE);
            due("dropTerm(" + dropped + ")", w.dropTerm(dropped), terms[dropped][0]);
            due("count(0)", w.count(0), 5);
            for (int index = 0; index < 5; index++) {
                dueTerm(w, index, terms[index < dropped ? index : index + 1]);
            }
            due("termOf(5, 0)", w.termOf(5, 0), NOT_FOUND);
            due("dropTerm(5)", w.dropTerm(5), NOT_POSSIBLE);
            due("term(4, 0, 3)", w.term(4, 0, 3), 6);
            dueTerm(w, 5, 4, 0, 3);
        }
    }

    private static void testTermsThatAreNot() {
        part = "if there are not so many terms";
        FoldWalks w = new FoldWalks();
        due("termOf(0, 0)", w.termOf(0, 0), NOT_FOUND);
        due("termOf(0, 2)", w.termOf(0, 2), NOT_FOUND);
        due("termOf(0, 3)", w.termOf(0, 3), INVALID);
        due("termOf(-1, 3)", w.termOf(-1, 3), INVALID);
        due("dropTerm(0)", w.dropTerm(0), NOT_POSSIBLE);
        due("dropTerm(-1)", w.dropTerm(-1), INVALID);
        w.term(3, 1, 0);
        due("termOf(1, 0)", w.termOf(1, 0), NOT_FOUND);
        due("dropTerm(1)", w.dropTerm(1), NOT_POSSIBLE);
        due("dropTerm(0)", w.dropTerm(0), 3);
        due("termOf(0, 0)", w.termOf(0, 0), NOT_FOUND);
        due("value(9, 9, 0)", w.value(9, 9, 0), SHIFT);
    }

    private static void testCorners() {
        part = "corners of the bounds";
        FoldWalks w = of("x-y");
        for (int corner = -1024; corner <= 1024; corner += 2048) {
            dueCorrected(w, corner, corner, corner, corner, 1);
            due("begin", w.begin(corner, corner, 1), corner < 0 ? 0 : 1);
            due("nearest(0, corner, corner)", w.nearest(0, corner, corner), 0);
            due("nearest(0, corner, other corner)", w.nearest(0, corner, -corner), 0);
        }
        dueCorrected(w, 1024, -1024, 0, 0, 2);
        due("corrected(1025, 0, 3)", w.corrected(1025, 0, 3), INVALID);
        due("corrected of no function, with a wrong what", new FoldWalks().corrected(0, 0, 3), INVALID);
        due("corrected of no function, with a wrong x", new FoldWalks().corrected(-1025, 0, 0), INVALID);
        due("begin of no function, with a wrong y", new FoldWalks().begin(0, 1025, 1), INVALID);
    }

    private static void testMostWalks() {
        part = "if there are 5 walks";
        FoldWalks w = scene();
        for (int walk = 2; walk < 5; walk++) {
            due("begin(9, 0, 1)", w.begin(9, 0, 1), walk);
        }
        due("begin(9, 0, 1) as the sixth", w.begin(9, 0, 1), LIMIT);
        due("begin(0, 0, 1) as the sixth, which fails", w.begin(0, 0, 1), NOT_POSSIBLE);
        due("begin(0, 1025, 1) as the sixth", w.begin(0, 1025, 1), INVALID);
        due("branch(0, 3, -1) as the sixth", w.branch(0, 3, -1), LIMIT);
        due("branch(0, 2, -1) as the sixth", w.branch(0, 2, -1), NOT_POSSIBLE);
        due("branch(4, 0, -1) as the sixth", w.branch(4, 0, -1), NOT_POSSIBLE);
        due("branch(5, 0, -1) as the sixth", w.branch(5, 0, -1), INVALID);
        due("branch(0, 5, -1) as the sixth", w.branch(0, 5, -1), INVALID);
        due("branch(0, 3, 0) as the sixth", w.branch(0, 3, 0), INVALID);
        due("count(1)", w.count(1), 5);
        due("drop(2)", w.drop(2), 4);
        due("branch(0, 3, -1) as the fifth", w.branch(0, 3, -1), 4);
        due("branch(0, 3, -1) as the sixth again", w.branch(0, 3, -1), LIMIT);
        due("walkOf(0, 8)", w.walkOf(0, 8), 2);
    }

    private static void testDropOrder() {
        part = "those that are left keep their order, and are numbered anew";
        for (int dropped = 0; dropped < 5; dropped++) {
            FoldWalks w = of("y");
            for (int walk = 0; walk < 5; walk++) {
                w.begin(100 * walk, 0, walk % 2 == 0 ? 1 : -1);
                w.step(walk, walk + 1);
            }
            due("drop(" + dropped + ")", w.drop(dropped), 4);
            for (int walk = 0; walk < 4; walk++) {
                int old = walk < dropped ? walk : walk + 1;
                due("places of walk " + walk, w.walkOf(walk, 0), old + 2);
                due("sign of walk " + walk, w.walkOf(walk, 1), old % 2 == 0 ? 1 : -1);
                duePlace(w, walk, 0, 100 * old, 0, 1, 0);
            }
            due("walkOf(4, 0)", w.walkOf(4, 0), INVALID);
            due("begin(77, 0, 1)", w.begin(77, 0, 1), 4);
            dueWalk(w, 4, 1, 1, 16, 0, 0, 0, NOT_FOUND, NOT_FOUND, 0);
            due("undo()", w.undo(), 3);
            due("undo()", w.undo(), 2);
            due("placeOf(4, 0, 0)", w.placeOf(4, 0, 0), 400);
            due("walkOf(4, 0)", w.walkOf(4, 0), 6);
        }
    }

    /** Walks 1 and 2 are begun from 0, walk 3 from 1, walk 4 from nothing. */
    private static FoldWalks tree() {
        FoldWalks w = of("xy");
        due("begin(-300, -200, 1)", w.begin(-300, -200, 1), 0);
        due("step(0, 12)", w.step(0, 12), 12);
        due("branch(0, 5, -1)", w.branch(0, 5, -1), 1);
        due("branch(0, 5, 1)", w.branch(0, 5, 1), 2);
        due("step(1, 12)", w.step(1, 12), 12);
        due("branch(1, 2, 1)", w.branch(1, 2, 1), 3);
        due("begin(500, 0, 1)", w.begin(500, 0, 1), 4);
        return w;
    }

    /** How many walks are below each, and the parent of each. */
    private static void dueTree(FoldWalks w, int[] below, int[] parents) {
        due("count(1)", w.count(1), below.length);
        for (int walk = 0; walk < below.length; walk++) {
            due("walkOf(" + walk + ", 8)", w.walkOf(walk, 8), below[walk]);
            due("walkOf(" + walk + ", 6)", w.walkOf(walk, 6), parents[walk]);
            due("walkOf(" + walk + ", 7) is told", w.walkOf(walk, 7) >= 0 ? 1 : 0, parents[walk] >= 0 ? 1 : 0);
        }
    }

    private static void testDropOfBranches() {
        part = "with all that were begun from it, from these, and so on";
        FoldWalks w = tree();
        dueTree(w, new int[] {3, 1, 0, 0, 0}, new int[] {NOT_FOUND, 0, 0, 1, NOT_FOUND});
        due("walkOf(1, 7)", w.walkOf(1, 7), 5);
        due("walkOf(3, 7)", w.walkOf(3, 7), 2);
        due("drop(4)", w.drop(4), 4);
        due("drop(2)", w.drop(2), 3);
        dueTree(w, new int[] {2, 1, 0}, new int[] {NOT_FOUND, 0, 1});
        due("walkOf(2, 7)", w.walkOf(2, 7), 2);
        due("drop(2)", w.drop(2), 2);
        dueTree(w, new int[] {1, 0}, new int[] {NOT_FOUND, 0});
        due("undo()", w.undo(), 3);
        due("drop(1)", w.drop(1), 1);
        dueTree(w, new int[] {0}, new int[] {NOT_FOUND});
        w = tree();
        due("drop(1)", w.drop(1), 3);
        dueTree(w, new int[] {1, 0, 0}, new int[] {NOT_FOUND, 0, NOT_FOUND});
        duePlace(w, 2, 0, 500, 0);
        w = tree();
        due("drop(0)", w.drop(0), 1);
        dueTree(w, new int[] {0}, new int[] {NOT_FOUND});
        duePlace(w, 0, 0, 500, 0);
        due("undo()", w.undo(), 3);
        dueTree(w, new int[] {3, 1, 0, 0, 0}, new int[] {NOT_FOUND, 0, 0, 1, NOT_FOUND});
    }

    private static void testPlaceThatIsNot() {
        part = "if there are not so many places";
        FoldWalks w = scene();
        due("placeOf(0, 4, 0)", w.placeOf(0, 4, 0), 76);
        for (int what = 0; what <= 3; what++) {
            due("placeOf(0, 5, " + what + ")", w.placeOf(0, 5, what), NOT_FOUND);
            due("placeOf(1, 1, " + what + ")", w.placeOf(1, 1, what), NOT_FOUND);
            due("placeOf(1, max, " + what + ")", w.placeOf(1, Integer.MAX_VALUE, what), NOT_FOUND);
            due("placeOf(0, -1, " + what + ")", w.placeOf(0, -1, what), INVALID);
        }
        due("placeOf(0, 5, 4)", w.placeOf(0, 5, 4), INVALID);
        due("placeOf(0, 5, -1)", w.placeOf(0, 5, -1), INVALID);
    }

    private static void testLines() {
        part = "those with F of 0 being left out";
        due("meets(0) of no function", new FoldWalks().meets(0), 0);
        due("meets(7) of 3", of("3").meets(7), 0);
        due("meets(7) of -3", of("-3").meets(7), 0);
        // F is just 1, or just -1, at y = 0 alone.
        due("meets(1) of xxx-5xyy", of("xxx-5xyy").meets(1), 2);
        due("meets(1) of 5xyy-xxx", of("5xyy-xxx").meets(1), 2);
        FoldWalks w = of("yyy");
        due("meets(0) of yyy, 0 between both signs", w.meets(0), 1);
        w = of("yy");
        due("meets(0) of yy, 0 between same signs", w.meets(0), 0);
        // F is 0 at each y on x = 0.
        w = of("xy");
        due("meets(0) of xy", w.meets(0), 0);
        due("meets(1) of xy", w.meets(1), 1);
        due("meets(-1024) of xy", w.meets(-1024), 1);
        // The roots of yyy - 4y are -512, 0 and 512.
        w = of("4y-yyy");
        due("meets(3) of 4y-yyy", w.meets(3), 3);
        // 0 at y = -16 and 16, below 0 between them.
        w = of("yy-x");
        due("meets(1) of yy-x", w.meets(1), 2);
        due("meets(-1) of yy-x", w.meets(-1), 0);
        w = of("xx+yy-1");
        due("meets(255)", w.meets(255), 2);
        due("meets(256), touched", w.meets(256), 0);
        due("meets(-256), touched", w.meets(-256), 0);
        due("meets(257)", w.meets(257), 0);
        due("meets(1024)", w.meets(1024), 0);
    }

    private static void testLineBounds() {
        part = "places y from -1024 to 1024";
        // The root lies 1 outside, at the bound, 1 inside, 2 inside.
        int[][] wants = {{-1, 0}, {0, 0}, {1, 1}, {2, 1}};
        for (int[] want : wants) {
            due("meets(" + want[0] + ") of y+x-4", of("y+x-4").meets(want[0]), want[1]);
            due("meets(" + -want[0] + ") of y+x+4", of("y+x+4").meets(-want[0]), want[1]);
            due("meets(" + want[0] + ") of 4-y-x", of("4-y-x").meets(want[0]), want[1]);
        }
        due("meets(1024) of y-x", of("y-x").meets(1024), 0);
        due("meets(1023) of y-x", of("y-x").meets(1023), 1);
        due("meets(-1023) of y-x", of("y-x").meets(-1023), 1);
        due("meets(-1024) of y-x", of("y-x").meets(-1024), 0);
        due("meets(1023) of six cubes", of("5xxx+5xxx+5xxx-5yyy-5yyy-5yyy").meets(1023), 1);
    }

    private static int parts(FoldWalks w, int walk) {
        int sum = 0;
        for (int place = 1; place < w.walkOf(walk, 0); place++) {
            int dx = w.placeOf(walk, place, 0) - w.placeOf(walk, place - 1, 0);
            int dy = w.placeOf(walk, place, 1) - w.placeOf(walk, place - 1, 1);
            sum += (int) Math.floor(Math.sqrt(dx * dx + dy * dy));
        }
        return sum;
    }

    private static void testSumsOfLengths() {
        part = "the sum as a float, divided by 256, as a float";
        FoldWalks w = begun("y", 1, 1, 0, 0, 1);
        due("lengthBits(0) of one place", w.lengthBits(0), 0);
        for (int sum = 1; sum <= 39; sum++) {
            due("step(0, 1)", w.step(0, 1), 1);
            due("lengthBits(0) of " + sum + " parts", w.lengthBits(0), Float.floatToIntBits(sum / 256f));
        }
        int[] lengths = {2, 3, 7, 16, 17, 31, 50, 64};
        for (int length : lengths) {
            w = begun("y", length, length, 1024, 0, 1);
            for (int places = 2; w.step(0, 1) == 1; places++) {
                due("walkOf(0, 0)", w.walkOf(0, 0), places);
                int sum = 1024 - w.placeOf(0, places - 1, 0);
                due("lengthBits(0) of " + sum + " parts", w.lengthBits(0), Float.floatToIntBits(sum / 256f));
            }
        }
        w = begun("xx+yy-5-5-5", 64, 128, 990, 50, 1);
        due("step(0, 40)", w.step(0, 40), 39);
        due("more than 2048 parts", parts(w, 0) > 2048 ? 1 : 0, 1);
        due("lengthBits(0) of the circle", w.lengthBits(0), Float.floatToIntBits((float) parts(w, 0) / 256f));
    }

    private static void testRoots() {
        part = "the root (as told) of the sum of both squares";
        // A move of (-1, 1) has the root of 2, which is 1; then (-2, 2) has that of 8, which is 2.
        FoldWalks w = begun("x+y", 2, 4, 0, 0, 1);
        due("step(0, 2)", w.step(0, 2), 2);
        duePlace(w, 0, 1, -1, 1);
        duePlace(w, 0, 2, -3, 3);
        due("lengthBits(0)", w.lengthBits(0), Float.floatToIntBits(3f / 256f));
        w = begun("xxx-3x-y", 5, 20, 0, 0, 1);
        w.step(0, 40);
        due("lengthBits(0) of a cubic", w.lengthBits(0), Float.floatToIntBits((float) parts(w, 0) / 256f));
    }

    private static void testNearest() {
        part = "of several the first one";
        FoldWalks w = begun("y", 16, 16, 32, 0, 1);
        due("step(0, 4)", w.step(0, 4), 4);
        // The places are 32, 16, 0, -16, -32.
        int[][] wants = {{1024, 0}, {32, 0}, {25, 0}, {24, 0}, {23, 1}, {8, 1}, {7, 2}, {-8, 2}, {-9, 3}, {-24, 3},
            {-25, 4}, {-1024, 4}};
        for (int[] want : wants) {
            for (int y : new int[] {-1024, -1, 0, 1, 1024}) {
                due("nearest(0, " + want[0] + ", " + y + ")", w.nearest(0, want[0], y), want[1]);
            }
        }
        w.begin(32, 0, 1);
        due("nearest(1, -1024, 1024) of one place", w.nearest(1, -1024, 1024), 0);
        // The way is closed and comes by again.
        w = begun("xx+yy-1", 64, 64, 256, 0, 1);
        due("step(0, 40)", w.step(0, 40), 39);
        due("nearest(0, 256, 0)", w.nearest(0, 256, 0), 0);
        part = "by the sum of both squares";
        w = begun("x", 16, 16, 0, 0, 1);
        due("step(0, 2)", w.step(0, 2), 2);
        due("nearest(0, 1024, 23)", w.nearest(0, 1024, 23), 1);
        due("nearest(0, 1024, 24), of two the first", w.nearest(0, 1024, 24), 1);
        due("nearest(0, 1024, 25)", w.nearest(0, 1024, 25), 2);
        // By the sums of the changes alone, (0, 0) would be as near as (-11, 11).
        w = begun("x+y", 16, 64, 0, 0, 1);
        due("step(0, 2)", w.step(0, 2), 2);
        due("nearest(0, 0, 20)", w.nearest(0, 0, 20), 1);
        due("nearest(0, -20, 0)", w.nearest(0, -20, 0), 1);
        due("nearest(0, -40, 5)", w.nearest(0, -40, 5), 2);
    }

    private static final int FINE = 0;

    /** Each character behind a text, told by the reasons why signs, digits and letters cannot stand there. */
    private static void dueNext(String before, int plus, int minus, int digit, int letter) {
        for (char c = 32; c <= 126; c++) {
            int reason = c == '+' ? plus : c == '-' ? minus : c >= '1' && c <= '5' ? digit
                : c == 'x' || c == 'y' ? letter : 1;
            boolean sign = c == '+' || c == '-';
            FoldWalks w = new FoldWalks();
            typeAll(w, before + c);
            int place = reason == FINE ? sign ? before.length() + 1 : NOT_FOUND : before.length();
            due("fault(0) of " + before + c, w.fault(0), place);
            due("fault(1) of " + before + c, w.fault(1), reason == FINE ? sign ? 1 : NOT_FOUND : reason);
            boolean good = reason == FINE && !sign;
            due("read() of " + before + c + " is refused", w.read() == NOT_POSSIBLE ? 1 : 0, good ? 0 : 1);
        }
    }

    private static void testNextCharacters() {
        part = "a character that cannot stand at its place";
        dueNext("", 1, FINE, FINE, FINE);
        String[] signs = {"-", "x+", "x-", "-3+", "2xxx-", "x+x+x+x+x+", "-x-x-x-x-x-"};
        for (String before : signs) {
            dueNext(before, 1, 1, FINE, FINE);
        }
        String[] begun = {"x", "xy", "-y", "-yx", "3", "3x", "3yy", "-1", "x+y", "x-2", "x+x+x+x+x"};
        for (String before : begun) {
            dueNext(before, FINE, FINE, 1, FINE);
        }
        String[] ended = {"xxx", "xyx", "-yyy", "5xxx", "1+xyy", "x+x+x+x+xyx"};
        for (String before : ended) {
            dueNext(before, FINE, FINE, 1, 2);
        }
        dueNext("x+x+x+x+x+x", 3, 3, 1, FINE);
        dueNext("-1-1-1-1-1-1", 3, 3, 1, FINE);
        dueNext("x+x+x+x+x+xyx", 3, 3, 1, 2);
    }

    private static void dueFault(String text, int place, int reason) {
        FoldWalks w = new FoldWalks();
        typeAll(w, text);
        due("fault(0) of '" + text + "'", w.fault(0), place);
        due("fault(1) of '" + text + "'", w.fault(1), reason);
    }

    private static void testEarlyEnds() {
        part = "the length of the text if it ends too early";
        String[] texts = {"", "-", "x+", "x-", "-x+", "3-", "xxx+", "x+x+x+x+x+", "-5xxx-5xxx-5xxx-5xxx-5xxx-"};
        for (String text : texts) {
            dueFault(text, text.length(), 1);
        }
        FoldWalks w = of("x");
        w.clearText();
        due("fault(0) of the cleared text", w.fault(0), 0);
        due("fault(1) of the cleared text", w.fault(1), 1);
    }

    private static void testFirstFault() {
        part = "the first fault from the left";
        String[] more = {"", " ", "x", "xxxx", "+", "++", "9", "12", "+x+x+x+x+x+x+x", "~~~~"};
        for (String rest : more) {
            dueFault("+" + rest, 0, 1);
            dueFault("-+" + rest, 1, 1);
            dueFault("x3" + rest, 1, 1);
            dueFault("22" + rest, 1, 1);
            dueFault("x+xyxy" + rest, 5, 2);
            dueFault("3yyyy" + rest, 4, 2);
            dueFault("x+x+x+x+x+x+" + rest, 11, 3);
            dueFault("-x+x+x+x+x+xxx-" + rest, 14, 3);
            dueFault("x-" + "$" + rest, 2, 1);
        }
    }

    private static void testLongestTexts() {
        part = "the longest text without a fault";
        FoldWalks w = of("-5xxx-5xxy-5xyx-5yyx-5yyy-5yxy");
        due("count(6)", w.count(6), 30);
        due("fault(0)", w.fault(0), NOT_FOUND);
        due("count(0)", w.count(0), 6);
        int[][] powers = {{3, 0}, {2, 1}, {2, 1}, {1, 2}, {0, 3}, {1, 2}};
        for (int index = 0; index < 6; index++) {
            dueTerm(w, index, -5, powers[index][0], powers[index][1]);
        }
        w.type('x');
        due("fault(0) of the 31st character", w.fault(0), 30);
        due("fault(1) of the 31st character", w.fault(1), 2);
        due("read() of it", w.read(), NOT_POSSIBLE);
    }

    private static void testFullText() {
        part = "a text of at most 60 characters";
        FoldWalks w = new FoldWalks();
        for (int length = 1; length <= 60; length++) {
            due("type(45)", w.type('-'), length);
            due("count(6)", w.count(6), length);
        }
        due("type(45) as the 61st", w.type('-'), LIMIT);
        due("type(31) as the 61st", w.type(31), INVALID);
        due("type(127) as the 61st", w.type(127), INVALID);
        due("count(6)", w.count(6), 60);
        due("fault(0)", w.fault(0), 1);
        due("clearText()", w.clearText(), 60);
        due("count(6)", w.count(6), 0);
        due("clearText()", w.clearText(), 0);
        due("type(120)", w.type('x'), 1);
        due("read()", w.read(), 1);
        due("clearText()", w.clearText(), 1);
    }

    private static void testReadFactors() {
        part = "the factor is 1 then";
        for (int factor = 1; factor <= 5; factor++) {
            dueTerm(of(factor + "x"), 0, factor, 1, 0);
            dueTerm(of("-" + factor), 0, -factor, 0, 0);
            dueTerm(of("y+" + factor + "yx"), 1, factor, 1, 1);
            dueTerm(of("y-" + factor + "yy"), 1, -factor, 0, 2);
        }
        dueTerm(of("x"), 0, 1, 1, 0);
        dueTerm(of("-yxy"), 0, -1, 1, 2);
        dueTerm(of("5+xx"), 1, 1, 2, 0);
        dueTerm(of("5-yyy"), 1, -1, 0, 3);
    }
}
