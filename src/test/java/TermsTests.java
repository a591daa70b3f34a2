import java.math.BigInteger;

/** The sentences under "Terms" that name an edge: functions, corrections, walks, beginning walks. */
public final class TermsTests extends Due {
    private static final int[] PLACES = {-1024, -1023, -257, -2, -1, 0, 1, 3, 256, 1023, 1024};
    private static final String SIX_CUBES = "5xxx+5xxx+5xxx+5xxx+5xxx+5xxx";

    public static void main(String[] args) {
        testMostTerms();
        testFactors();
        testPowers();
        testSums();
        testUnits();
        testGreatestNumbers();
        testSlopeOfNothing();
        testOldPlace();
        testUnchangedRound();
        testMostRounds();
        testBeyond();
        testBoundsOfSteps();
        testMovedBeyond();
        testFailedCorrections();
        testBackToOldPlace();
        testHalving();
        testStuck();
        testRootOfOne();
        testCrossings();
        testFolds();
        testLengthsAfterRounds();
        testGreatestLength();
        testLeastLength();
        testFullWalk();
        testFirstLength();
        testDiagonalBranches();
        testBranchSigns();
        testBranchBeyond();
        testBranchOfLastPlace();
        testBranchOfStuckWalk();
        end("all terms hold");
    }

    private static void testMostTerms() {
        part = "a sum of at most 6 terms";
        FoldWalks w = new FoldWalks();
        for (int terms = 1; terms <= 6; terms++) {
            due("term(1, 1, 1)", w.term(1, 1, 1), terms);
        }
        due("term(1, 1, 1) as the seventh", w.term(1, 1, 1), LIMIT);
        due("count(0)", w.count(0), 6);
        due("value(256, 256, 0) of six same terms", w.value(256, 256, 0), SHIFT + 6 * 16777216);
        due("dropTerm(5)", w.dropTerm(5), 1);
        due("term(2, 0, 0) as the sixth again", w.term(2, 0, 0), 6);
        due("term(2, 0, 0) as the seventh", w.term(2, 0, 0), LIMIT);
        due("read of six", of("x+x+x+x+x+x").count(0), 6);
    }

    private static void testFactors() {
        part = "a factor (-5 to 5, not 0)";
        for (int factor = -8; factor <= 8; factor++) {
            boolean good = factor >= -5 && factor <= 5 && factor != 0;
            FoldWalks w = new FoldWalks();
            due("term(" + factor + ", 1, 2)", w.term(factor, 1, 2), good ? 1 : INVALID);
            due("termOf(0, 0)", w.termOf(0, 0), good ? factor : NOT_FOUND);
        }
        for (int factor : FAR) {
            due("term(" + factor + ", 1, 2)", new FoldWalks().term(factor, 1, 2), INVALID);
        }
    }

    private static void testPowers() {
        part = "powers (0 to 3 each, together at most 3)";
        int[] powers = {Integer.MIN_VALUE, -2, -1, 0, 1, 2, 3, 4, 5, Integer.MAX_VALUE};
        for (int x : powers) {
            for (int y : powers) {
                boolean good = x >= 0 && x <= 3 && y >= 0 && y <= 3 && x + y <= 3;
                FoldWalks w = new FoldWalks();
                due("term(-3, " + x + ", " + y + ")", w.term(-3, x, y), good ? 1 : INVALID);
                due("termOf(0, 1)", w.termOf(0, 1), good ? x : NOT_FOUND);
                due("termOf(0, 2)", w.termOf(0, 2), good ? y : NOT_FOUND);
            }
        }
    }

    private static long product(long factor, int i, int j, int scale, long x, long y) {
        if (factor == 0) {
            return 0;
        }
        return BigInteger.valueOf(factor).multiply(BigInteger.valueOf(x).pow(i))
            .multiply(BigInteger.valueOf(y).pow(j)).multiply(BigInteger.valueOf(256).pow(scale)).longValueExact();
    }

    private static void testSums() {
        part = "F, Gx and Gy of each pair of powers";
        for (int i = 0; i <= 3; i++) {
            for (int j = 0; i + j <= 3; j++) {
                FoldWalks w = new FoldWalks();
                w.term(i - 5, i, j);
                for (int x : PLACES) {
                    for (int y : PLACES) {
                        String of = "value(" + x + ", " + y + ", ";
                        int scale = 3 - i - j;
                        due(of + "0)", w.value(x, y, 0), SHIFT + product(i - 5, i, j, scale, x, y));
                        long gx = i == 0 ? 0 : product((i - 5) * i, i - 1, j, scale, x, y);
                        due(of + "1)", w.value(x, y, 1), SHIFT + gx);
                        long gy = j == 0 ? 0 : product((i - 5) * j, i, j - 1, scale, x, y);
                        due(of + "2)", w.value(x, y, 2), SHIFT + gy);
                    }
                }
            }
        }
    }

    private static void testUnits() {
        part = "F is the value times 16777216";
        // At (2, 3): 12 - 12 + 3 - 5 is -2, 2xy - 2y is 6, xx - 2x + 1 is 1.
        FoldWalks w = of("xxy-2xy+y-5");
        due("value(512, 768, 0)", w.value(512, 768, 0), SHIFT - 2 * 16777216);
        due("value(512, 768, 1)", w.value(512, 768, 1), SHIFT + 6 * 65536);
        due("value(512, 768, 2)", w.value(512, 768, 2), SHIFT + 65536);
    }

    private static void testGreatestNumbers() {
        part = "no number is beyond 64 bits";
        FoldWalks w = of(SIX_CUBES);
        due("value(-1024, 1, 0)", w.value(-1024, 1, 0), SHIFT - 32212254720L);
        due("value(-1024, 1, 1)", w.value(-1024, 1, 1), SHIFT + 94371840);
        w.set(2, 20);
        dueCorrected(w, 1024, 1024, 2, 1024, 17);
        dueCorrected(w, -1024, -1024, -2, -1024, 17);
        w = of("-5yyy-5yyy-5yyy-5yyy-5yyy-5yyy");
        w.set(2, 20);
        dueCorrected(w, 1024, 1024, 1024, 2, 17);
        dueCorrected(w, -1024, -1024, -1024, -2, 17);
        w = of("5xxy+5xxy+5xxy+5xxy+5xxy+5xxy");
        w.set(2, 20);
        dueCorrected(w, 1024, -1024, 2, -665, 12);
        dueCorrected(w, -1024, 1024, -2, 665, 12);
        w = of("5xxx+5xxx+5xxx-5yyy-5yyy-5yyy");
        w.set(2, 20);
        due("value(-1024, 1024, 0)", w.value(-1024, 1024, 0), SHIFT - 32212254720L);
        dueCorrected(w, -1024, 1024, -2, 2, 17);
        dueCorrected(w, 1024, 1024, 1024, 1024, 1);
        due("begin(1024, 1024, 1)", w.begin(1024, 1024, 1), 0);
        due("step(0, 1) from the corner", w.step(0, 1), 0);
        due("begin(1024, 1024, -1)", w.begin(1024, 1024, -1), 1);
        due("step(1, 1) from the corner", w.step(1, 1), 1);
        duePlace(w, 1, 1, 1013, 1013, 1, 0);
    }

    private static void testSlopeOfNothing() {
        part = "if G is 0, the correction fails";
        dueCorrected(new FoldWalks(), 5, 6);
        dueCorrected(of("4"), 5, 6);
        dueCorrected(of("4-4"), 0, 0);
        dueCorrected(of("x-x"), 0, 0);
        dueCorrected(of("xy"), 0, 0);
        dueCorrected(of("xx"), 0, 7);
        FoldWalks w = of("xx+1");
        w.set(2, 20);
        // -51, 617, 256, 0: there G is 0, in the fourth round.
        dueCorrected(w, -51, 247);
        dueCorrected(w, 256, 0);
        w = of("2xxx+2");
        dueCorrected(w, 203, -3);
        dueCorrected(w, -256, -3, -256, -3, 1);
        due("begin(203, -3, 1)", w.begin(203, -3, 1), NOT_POSSIBLE);
    }

    private static void testOldPlace() {
        part = "both by the old place, rounded towards 0";
        FoldWalks w = of("xy");
        w.set(2, 3);
        // 192 * 16 / 400 is 7, and 192 * 12 / 400 is 5; then 55 * 11 / 146 is 4, and 55 * 5 / 146 is 1.
        dueCorrected(w, 12, 16, 1, 10, 3);
        dueCorrected(w, -12, 16, -1, 10, 3);
        dueCorrected(w, 12, -16, 1, -10, 3);
        dueCorrected(w, -12, -16, -1, -10, 3);
        w = of("-xy");
        dueCorrected(w, 16, -12, 10, -1, 3);
    }

    private static void testUnchangedRound() {
        part = "a round that changes nothing ends it, and is counted, too";
        FoldWalks w = of("xx");
        // F is 256 and Gx 512: less by 1 / 2, which is 0, though the place is not on the curve.
        due("value(1, 5, 0)", w.value(1, 5, 0), SHIFT + 256);
        dueCorrected(w, 1, 5, 1, 5, 1);
        dueCorrected(w, -1, 5, -1, 5, 1);
        dueCorrected(w, 2, 5, 1, 5, 2);
        dueCorrected(w, -3, 5, -1, 5, 3);
        dueCorrected(w, 4, 5, 1, 5, 3);
        w = of("yy");
        dueCorrected(w, 5, 4, 5, 1, 3);
        dueCorrected(w, 5, -1, 5, -1, 1);
    }

    private static void testMostRounds() {
        part = "if so many rounds as setting 2 all change something, it fails";
        FoldWalks w = of("xx");
        dueCorrected(w, 128, 0, 1, 0, 8);
        dueCorrected(w, 256, 0);
        due("begin(256, 0, 1)", w.begin(256, 0, 1), NOT_POSSIBLE);
        due("begin(128, 0, 1)", w.begin(128, 0, 1), 0);
        duePlace(w, 0, 0, 1, 0, 8, 0);
        w.set(2, 9);
        dueCorrected(w, 256, 0, 1, 0, 9);
        dueCorrected(w, 512, 0);
        w.set(2, 2);
        dueCorrected(w, 1, 0, 1, 0, 1);
        dueCorrected(w, 2, 0, 1, 0, 2);
        dueCorrected(w, 4, 0);
        w.set(2, 3);
        dueCorrected(w, 4, 0, 1, 0, 3);
        w.set(2, 20);
        dueCorrected(w, 1024, 0, 1, 0, 11);
        w = of("xx+yyy");
        w.set(2, 20);
        dueCorrected(w, -396, 882, 0, 2, 20);
        w.set(2, 19);
        dueCorrected(w, -396, 882);
        w = of("4xx+yyy");
        w.set(2, 20);
        // It would be 21 rounds.
        dueCorrected(w, -63, 169);
    }

    private static void testBeyond() {
        part = "a place is beyond -1024 to 1024";
        dueCorrected(of("x-4"), 5, -7, 1024, -7, 2);
        dueCorrected(of("x+4"), 5, -7, -1024, -7, 2);
        dueCorrected(of("y-4"), 5, -7, 5, 1024, 2);
        dueCorrected(of("y+4"), 5, -7, 5, -1024, 2);
        dueCorrected(of("x-4"), 1024, 1024, 1024, 1024, 1);
        dueCorrected(of("y+4"), -1024, -1024, -1024, -1024, 1);
        // 66 leads to 1025, from where it would come back to 363; 67 leads to 1011.
        FoldWalks w = of("xx-2");
        dueCorrected(w, 66, 69);
        dueCorrected(w, -66, 69);
        dueCorrected(w, 67, 69, 363, 69, 6);
        dueCorrected(w, -67, 69, -363, 69, 6);
        due("begin(66, 69, 1)", w.begin(66, 69, 1), NOT_POSSIBLE);
        w = of("yy-2");
        dueCorrected(w, 69, 66);
        dueCorrected(w, 69, -66);
        dueCorrected(w, 69, 67, 69, 363, 6);
        dueCorrected(w, 69, -67, 69, -363, 6);
        // The last round allowed leads beyond: that fails as well.
        w = of("x+5");
        w.set(2, 2);
        dueCorrected(w, 0, 0);
    }

    /** One step of a line from 1 part too near to a bound for the length 16, and from just so near. */
    private static void dueBound(String line, int sign, int dx, int dy) {
        FoldWalks w = begun(line, 16, 64, 1008 * dx, 1008 * dy, sign);
        due("step(0, 1) to the bound", w.step(0, 1), 1);
        duePlace(w, 0, 1, 1024 * dx, 1024 * dy, 1, 0);
        due("walkOf(0, 2)", w.walkOf(0, 2), 32);
        due("step(0, 1) at the bound", w.step(0, 1), 0);
        dueWalk(w, 0, 2, sign, 0, 1, 0, 0);
        w = begun(line, 16, 64, 1009 * dx, 1009 * dy, sign);
        due("step(0, 1) near the bound", w.step(0, 1), 1);
        duePlace(w, 0, 1, 1017 * dx, 1017 * dy, 1, 0);
        due("walkOf(0, 2)", w.walkOf(0, 2), 16);
    }

    private static void testBoundsOfSteps() {
        part = "if it is beyond the bounds";
        dueBound("y", -1, 1, 0);
        dueBound("y", 1, -1, 0);
        dueBound("x", 1, 0, 1);
        dueBound("x", -1, 0, -1);
    }

    private static void testMovedBeyond() {
        part = "beyond the bounds, though its correction would come back";
        FoldWalks w = begun("-3xy-4", 64, 64, -90, 4, -1);
        duePlace(w, 0, 0, -91, 963);
        due("step(0, 1)", w.step(0, 1), 1);
        duePlace(w, 0, 1, -88, 994, 1, 0);
        due("walkOf(0, 2)", w.walkOf(0, 2), 64);
        w = begun("3xy-2xy+3", 64, 64, -51, -183, -1);
        duePlace(w, 0, 0, 963, -204);
        due("step(0, 1)", w.step(0, 1), 1);
        duePlace(w, 0, 1, 994, -198, 1, 0);
    }

    private static void testFailedCorrections() {
        part = "or the correction fails";
        // The length 16 leads to (0, 0), where G is 0, the length 8 does not.
        FoldWalks w = begun("xy", 16, 64, 16, 0, 1);
        due("step(0, 1)", w.step(0, 1), 1);
        duePlace(w, 0, 1, 8, 0, 1, 0);
        due("walkOf(0, 2)", w.walkOf(0, 2), 16);
        // The length 64 needs too many rounds.
        w = begun("-yy-xxx", 64, 64, -25, -16, -1);
        duePlace(w, 0, 0, -26, -9);
        due("step(0, 1)", w.step(0, 1), 1);
        duePlace(w, 0, 1, 3, 1, 3, 2);
        due("walkOf(0, 2)", w.walkOf(0, 2), 32);
        // (1024, -12) is within the bounds, and corrected to beyond.
        w = begun("-4yy-4+x", 3, 64, 0, -9, -1);
        due("step(0, 3)", w.step(0, 3), 3);
        duePlace(w, 0, 2, 1024, 0, 1);
        duePlace(w, 0, 3, 1024, -6, 1, 0);
        due("walkOf(0, 2)", w.walkOf(0, 2), 12);
    }

    private static void testBackToOldPlace() {
        part = "or it comes to the old place";
        // From (0, -1) the length 32 moves to (-32, -1), which is corrected to (0, -1) in 2 rounds.
        FoldWalks w = begun("xx+4xxx-3yyy", 16, 64, 25, 13, -1);
        due("step(0, 1)", w.step(0, 1), 1);
        duePlace(w, 0, 1, 0, -1, 1);
        due("walkOf(0, 2)", w.walkOf(0, 2), 32);
        dueCorrected(w, -32, -1, 0, -1, 2);
        due("step(0, 1)", w.step(0, 1), 1);
        duePlace(w, 0, 2, -1, -1, 5);
        due("walkOf(0, 2)", w.walkOf(0, 2), 8);
        // A move by 0: 1 times 65536 by 92681, in both.
        w = begun("x+y", 1, 64, 0, 0, 1);
        due("step(0, 40)", w.step(0, 40), 0);
        dueWalk(w, 0, 1, 1, 0, 1);
        w = begun("x+y", 2, 64, 0, 0, -1);
        due("step(0, 1)", w.step(0, 1), 1);
        duePlace(w, 0, 1, 1, -1, 1);
    }

    private static void testHalving() {
        part = "the length is halved (divided by 2), and the step is tried again";
        // 5 leads beyond, 2 does not.
        FoldWalks w = begun("y", 5, 64, 1022, 0, -1);
        due("step(0, 1)", w.step(0, 1), 1);
        duePlace(w, 0, 1, 1024, 0);
        due("walkOf(0, 2)", w.walkOf(0, 2), 4);
        // 7 and 3 lead beyond, 1 does not.
        w = begun("y", 7, 64, 1023, 0, -1);
        due("step(0, 1)", w.step(0, 1), 1);
        duePlace(w, 0, 1, 1024, 0);
        due("walkOf(0, 2)", w.walkOf(0, 2), 2);
        // 63, 31, 15, 7, 3: 15 leads to 1024.
        w = begun("y", 63, 20, 1009, 0, -1);
        due("step(0, 1)", w.step(0, 1), 1);
        duePlace(w, 0, 1, 1024, 0);
        due("walkOf(0, 2)", w.walkOf(0, 2), 20);
    }

    private static void testStuck() {
        part = "if the length is 0 then, the walk is stuck, and no place is added";
        FoldWalks w = begun("y", 1, 64, 1024, 0, -1);
        due("walkOf(0, 3) before", w.walkOf(0, 3), 0);
        due("step(0, 1)", w.step(0, 1), 0);
        dueWalk(w, 0, 1, -1, 0, 1, 0, 0, NOT_FOUND, NOT_FOUND, 0);
        due("step(0, 1) of the stuck walk", w.step(0, 1), NOT_POSSIBLE);
        due("step(0, 40) of the stuck walk", w.step(0, 40), NOT_POSSIBLE);
        due("step(0, 41) of the stuck walk", w.step(0, 41), INVALID);
        w.set(0, 1);
        w.set(1, 1);
        due("step(0, 1), stuck for good", w.step(0, 1), NOT_POSSIBLE);
        w = begun("y", 16, 64, 1000, 0, -1);
        due("step(0, 40) until it is stuck", w.step(0, 40), 2);
        dueWalk(w, 0, 3, -1, 0, 1);
        duePlace(w, 0, 1, 1016, 0);
        duePlace(w, 0, 2, 1024, 0);
        due("placeOf(0, 3, 0)", w.placeOf(0, 3, 0), NOT_FOUND);
        due("undo()", w.undo(), 3);
        dueWalk(w, 0, 1, -1, 16, 0);
        due("step(0, 2) just before it is stuck", w.step(0, 2), 2);
        dueWalk(w, 0, 3, -1, 16, 0);
        due("step(0, 1), which makes it stuck", w.step(0, 1), 0);
        due("walkOf(0, 3)", w.walkOf(0, 3), 1);
    }

    private static void testRootOfOne() {
        part = "divided by the root, which is just 1";
        FoldWalks w = begun("xxy", 3, 64, 1, 0, -1);
        due("Gx at (1, 0)", w.value(1, 0, 1), SHIFT);
        due("Gy at (1, 0)", w.value(1, 0, 2), SHIFT + 1);
        due("step(0, 1)", w.step(0, 1), 1);
        duePlace(w, 0, 1, 4, 0, 1, 0);
        // The changes are (0, 1).
        w = begun("2xxy+xxx", 1, 64, -1, 0, 1);
        due("step(0, 1)", w.step(0, 1), 1);
        dueBranch(w, 3, 1, 1, -4, 1, 1, 1);
        dueBranch(w, 3, 1, -1, 2, 1, 1, -1);
        // The changes are (1, -1): the root of 2 is 1.
        w = begun("3yyy-xxy", 2, 64, -2, 1, -1);
        due("step(0, 1)", w.step(0, 1), 1);
        dueBranch(w, 3, 1, 1, 2, 3, 1, -1);
        dueBranch(w, 3, 1, -1, -4, -3, 1, 1);
    }

    /** Place 0, and what the first step makes: its place, the kind of it, and the sign then. */
    private static void dueStep(FoldWalks w, int fromX, int fromY, int x, int y, int kind, int sign) {
        duePlace(w, 0, 0, fromX, fromY);
        due("placeOf(0, 0, 3)", w.placeOf(0, 0, 3), 0);
        due("step(0, 1)", w.step(0, 1), 1);
        duePlace(w, 0, 1, x, y);
        due("placeOf(0, 1, 3)", w.placeOf(0, 1, 3), kind);
        dueWalk(w, 0, 2, sign);
        due("walkOf(0, 4)", w.walkOf(0, 4), kind == 1 ? 1 : 0);
        due("walkOf(0, 5)", w.walkOf(0, 5), kind == 2 ? 1 : 0);
    }

    private static void testCrossings() {
        part = "times the sign, is below 0: a crossing";
        // Gy changes its sign, too, but a crossing is no fold.
        dueStep(begun("xy", 64, 64, 11, 1, 1), 11, 1, -52, 1, 2, -1);
        dueStep(begun("-xy", 16, 64, -10, 0, -1), -10, 0, 6, 0, 2, 1);
        // Gy keeps its sign.
        dueStep(begun("xy", 64, 64, 4, -5, -1), 1, -4, 1, 54, 2, 1);
        dueStep(begun("-xy", 8, 64, -1, 6, 1), -1, 6, -2, -1, 2, -1);
        // It is just -1.
        dueStep(begun("2xxy+xxx", 1, 64, -1, 0, 1), -1, 0, -1, 1, 2, -1);
        dueStep(begun("xxx-2xyy", 3, 64, 1, -2, -1), 1, -2, 3, -1, 2, 1);
        part = "it is just 0: no crossing";
        dueStep(begun("2xyy+xxy", 3, 64, -5, 10, 1), -3, 2, 0, 2, 0, 1);
        dueStep(begun("-xyy-3xyy+2xxx", 5, 64, -1, -6, -1), -1, -6, -2, -2, 0, -1);
    }

    private static void testFolds() {
        part = "0 or more, and Gy times Gy below 0: a fold";
        dueStep(begun("4xy", 16, 64, 5, -8, 1), 1, -6, -1, -21, 1, 1);
        dueStep(begun("-xy", 64, 64, -2, 17, -1), -1, 17, 1, 80, 1, -1);
        // Gy times Gy is just -1.
        dueStep(begun("3xxy-xyy", 1, 64, 1, 2, -1), 1, 2, 1, 1, 1, -1);
        dueStep(begun("5xxy+xyy", 1, 64, 1, -2, 1), 1, -2, 1, -3, 1, 1);
        part = "just 0, and Gy times Gy below 0: a fold";
        FoldWalks w = begun("yy-3xy", 3, 64, 4, 3, 1);
        due("Gx at the new place", w.value(1, 0, 1), SHIFT);
        due("Gy at the new place", w.value(1, 0, 2), SHIFT - 768);
        due("Gy at the old place", w.value(1, 2, 2), SHIFT + 256);
        dueStep(w, 1, 2, 1, 0, 1, 1);
        part = "Gy at the new place just 0: no fold";
        dueStep(begun("xy", 16, 64, -1, 11, 1), -1, 11, 0, 26, 0, 1);
        part = "Gy at the old place just 0: no fold";
        dueStep(begun("3x+yy", 16, 64, -43, 0, 1), 0, 0, 0, 16, 0, 1);
    }

    /** The rounds of the first step, and the length after it. */
    private static void dueLength(FoldWalks w, int rounds, int length) {
        due("step(0, 1)", w.step(0, 1), 1);
        due("its rounds", w.placeOf(0, 1, 2), rounds);
        due("the length after " + rounds + " rounds", w.walkOf(0, 2), length);
    }

    private static void testLengthsAfterRounds() {
        part = "with 2 rounds or fewer it is doubled";
        dueLength(begun("y", 33, 128, 0, 0, 1), 1, 66);
        dueLength(begun("xy", 33, 128, 3, 2, -1), 2, 66);
        part = "with 3 or 4 rounds it stays";
        dueLength(begun("xy", 33, 128, 2, 1, -1), 3, 33);
        dueLength(begun("xyy", 33, 128, 3, 1, 1), 4, 33);
        part = "with 5 rounds or more it is halved";
        dueLength(begun("xy", 33, 128, -1, -1, -1), 5, 16);
        dueLength(begun("xyy", 33, 128, -1, 1, 1), 6, 16);
        dueLength(begun("xxy", 33, 128, -2, -1, 1), 7, 16);
        dueLength(begun("xxy", 64, 128, 2, 1, -1), 8, 32);
    }

    private static void testGreatestLength() {
        part = "but not above setting 1";
        dueLength(begun("y", 8, 17, 0, 0, 1), 1, 16);
        dueLength(begun("y", 8, 16, 0, 0, 1), 1, 16);
        dueLength(begun("y", 8, 15, 0, 0, 1), 1, 15);
        dueLength(begun("y", 8, 8, 0, 0, 1), 1, 8);
        dueLength(begun("y", 8, 7, 0, 0, 1), 1, 7);
        dueLength(begun("y", 1, 1, 0, 0, 1), 1, 1);
        dueLength(begun("y", 64, 128, 0, 0, 1), 1, 128);
        dueLength(begun("xy", 33, 1, -3, -1, -1), 2, 1);
        part = "a length above setting 1 that is not doubled";
        dueLength(begun("xy", 33, 1, 2, 1, 1), 3, 33);
        dueLength(begun("xyy", 33, 1, 3, -1, -1), 4, 33);
        dueLength(begun("xy", 33, 1, -1, -1, -1), 5, 16);
    }

    private static void testLeastLength() {
        part = "halved, but not below 1";
        dueLength(begun("4xxx+yy", 5, 64, 0, -1, 1), 5, 2);
        dueLength(begun("3xxx-yy", 3, 64, -4, 3, -1), 5, 1);
        dueLength(begun("yy-4xxx", 2, 64, -4, 1, 1), 5, 1);
        FoldWalks w = of("5xxy-xyy-4xxx-4xxx");
        w.set(0, 1);
        w.set(2, 20);
        due("begin(-17, -7, 1)", w.begin(-17, -7, 1), 0);
        dueLength(w, 7, 1);
    }

    private static void testFullWalk() {
        part = "a walk with 40 places is full";
        FoldWalks w = begun("y", 16, 16, 500, 0, 1);
        due("step(0, 38)", w.step(0, 38), 38);
        dueWalk(w, 0, 39, 1, 16, 0);
        due("step(0, 40) of a walk with 39 places", w.step(0, 40), 1);
        dueWalk(w, 0, 40, 1, 16, 2);
        due("placeOf(0, 39, 0)", w.placeOf(0, 39, 0), 500 - 39 * 16);
        due("placeOf(0, 40, 0)", w.placeOf(0, 40, 0), NOT_FOUND);
        due("step(0, 1) of the full walk", w.step(0, 1), NOT_POSSIBLE);
        due("step(0, 40) of the full walk", w.step(0, 40), NOT_POSSIBLE);
        due("step(0, 41) of the full walk", w.step(0, 41), INVALID);
        due("undo()", w.undo(), 3);
        dueWalk(w, 0, 39, 1, 16, 0);
        due("placeOf(0, 39, 0)", w.placeOf(0, 39, 0), NOT_FOUND);
        w = begun("y", 16, 16, 500, 0, 1);
        due("step(0, 39)", w.step(0, 39), 39);
        due("walkOf(0, 3)", w.walkOf(0, 3), 2);
        w = begun("y", 16, 16, 500, 0, 1);
        due("step(0, 40)", w.step(0, 40), 39);
    }

    private static void testFirstLength() {
        part = "its length is setting 0";
        int[] lengths = {1, 16, 64};
        for (int length : lengths) {
            FoldWalks w = begun("y", length, 1, 0, 9, 1);
            dueWalk(w, 0, 1, 1, length, 0, 0, 0, NOT_FOUND, NOT_FOUND, 0);
            duePlace(w, 0, 0, 0, 0, 2, 0);
            due("step(0, 1)", w.step(0, 1), 1);
            due("placeOf(0, 1, 0)", w.placeOf(0, 1, 0), -length);
        }
    }

    private static void dueBranch(FoldWalks w, int first, int place, int side, int... wants) {
        w.set(0, first);
        int walk = w.branch(0, place, side);
        due("branch(0, " + place + ", " + side + ") answers a walk", walk < 0 ? walk : 1, 1);
        duePlace(w, walk, 0, wants[0], wants[1], wants[2], 0);
        dueWalk(w, walk, 1, wants[3], first, 0, 0, 0, 0, place, 0);
        due("count(1)", w.count(1), walk + 1);
        w.undo();
    }

    private static void testDiagonalBranches() {
        part = "each of both divided by the root of a times a plus b times b";
        // The changes are (45, 45), the root of 4050 is 63: 16 times 45 by 63 is 11.
        FoldWalks w = begun("xx-yy", 16, 64, -100, -100, -1);
        due("step(0, 6)", w.step(0, 6), 6);
        duePlace(w, 0, 3, -22, -22, 1, 0);
        duePlace(w, 0, 4, 23, 23, 1, 2);
        dueBranch(w, 16, 4, 1, 18, 19, 3, -1);
        dueBranch(w, 16, 4, -1, 19, 18, 3, -1);
        dueBranch(w, 64, 4, 1, -34, 35, 3, -1);
        dueBranch(w, 64, 4, -1, 35, -34, 3, -1);
        dueBranch(w, 10, 4, 1, 20, 21, 3, -1);
        dueBranch(w, 10, 4, -1, 21, 20, 3, -1);
        // 45 by 63 is 0: the crossing itself.
        dueBranch(w, 1, 4, 1, 23, 23, 1, 1);
        dueBranch(w, 1, 4, -1, 23, 23, 1, 1);
        w = begun("xx-yy", 16, 64, 90, -90, 1);
        due("step(0, 5)", w.step(0, 5), 5);
        duePlace(w, 0, 4, -33, 33, 1, 2);
        dueBranch(w, 16, 4, 1, -30, 29, 3, 1);
        dueBranch(w, 16, 4, -1, -29, 30, 3, 1);
        dueBranch(w, 64, 4, 1, -25, -24, 4, 1);
        dueBranch(w, 64, 4, -1, 24, 25, 4, 1);
    }

    private static void testBranchSigns() {
        part = "its sign is 1 if it is 0 or more, otherwise -1";
        // Gx times 1 plus Gy times -5, times the side -1, is just -1 at (-1, -3).
        FoldWalks w = begun("xxy", 5, 64, 1, 2, -1);
        due("step(0, 1)", w.step(0, 1), 1);
        duePlace(w, 0, 0, 1, 2);
        duePlace(w, 0, 1, 2, -3, 1, 2);
        due("Gx at (-1, -3)", w.value(-1, -3, 1), SHIFT + 6);
        due("Gy at (-1, -3)", w.value(-1, -3, 2), SHIFT + 1);
        dueBranch(w, 3, 1, -1, -1, -3, 1, -1);
        // b is 0, and Gx is 0 at the place that the branch is corrected to: just 0.
        w = begun("xy+xyy", 3, 64, -28, -12, 1);
        due("step(0, 4)", w.step(0, 4), 4);
        duePlace(w, 0, 3, -3, 0);
        duePlace(w, 0, 4, 21, 0, 1, 2);
        due("Gx at (21, 0)", w.value(21, 0, 1), SHIFT);
        dueBranch(w, 3, 4, -1, 21, 0, 3, 1);
    }

    private static void dueBranchBeyond(String function, int x, int y, int sign, int side) {
        FoldWalks w = begun(function, 16, 64, x, y, sign);
        due("step(0, 3)", w.step(0, 3), 3);
        due("placeOf(0, 3, 3)", w.placeOf(0, 3, 3), 2);
        int states = w.count(5);
        due("branch(0, 3, " + side + ")", w.branch(0, 3, side), NOT_POSSIBLE);
        due("count(5)", w.count(5), states);
        due("branch(0, 3, " + -side + ")", w.branch(0, 3, -side), 1);
    }

    private static void testBranchBeyond() {
        part = "a branch whose place lies beyond the bounds";
        dueBranchBeyond("xy-4x", -100, 1024, 1, 1);
        dueBranchBeyond("xy+4x", -100, -1024, 1, -1);
        dueBranchBeyond("xy-4y", 1024, -100, -1, -1);
        dueBranchBeyond("xy+4y", -1024, -100, -1, 1);
    }

    private static void testBranchOfLastPlace() {
        part = "a branch of the last place of a full walk";
        FoldWalks w = begun("xy", 16, 16, -612, 0, 1);
        due("step(0, 40)", w.step(0, 40), 39);
        duePlace(w, 0, 38, -4, 0, 1, 0);
        duePlace(w, 0, 39, 12, 0, 1, 2);
        dueWalk(w, 0, 40, -1, 16, 2, 0, 1);
        due("branch(0, 38, 1)", w.branch(0, 38, 1), NOT_POSSIBLE);
        due("branch(0, 40, 1)", w.branch(0, 40, 1), INVALID);
        due("branch(0, 39, 1)", w.branch(0, 39, 1), 1);
        duePlace(w, 1, 0, 1, 10, 3, 0);
        dueWalk(w, 1, 1, 1, 16, 0, 0, 0, 0, 39, 0);
        due("branch(0, 39, -1)", w.branch(0, 39, -1), 2);
        due("walkOf(0, 8)", w.walkOf(0, 8), 2);
    }

    private static void testBranchOfStuckWalk() {
        part = "a branch of a stuck walk";
        FoldWalks w = begun("xy", 16, 64, 100, 0, 1);
        due("step(0, 40)", w.step(0, 40), 21);
        due("walkOf(0, 3)", w.walkOf(0, 3), 1);
        due("placeOf(0, 3, 3)", w.placeOf(0, 3, 3), 2);
        due("branch(0, 3, 1)", w.branch(0, 3, 1), 1);
        due("walkOf(1, 3)", w.walkOf(1, 3), 0);
        due("step(1, 1)", w.step(1, 1), 1);
    }
}
