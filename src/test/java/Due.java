import java.util.StringJoiner;

/** What the tests share: comparing answers with what is due, and telling all that an object answers. */
abstract class Due {
    static final int INVALID = -1000001;
    static final int NOT_POSSIBLE = -1000002;
    static final int LIMIT = -1000003;
    static final int NOT_FOUND = -1000004;
    static final long SHIFT = 1000000000000L;
    static final int[] FAR = {Integer.MIN_VALUE, Integer.MAX_VALUE};

    private static int wrong;
    static String part = "";

    static void due(String call, long got, long want) {
        if (got != want) {
            wrong++;
            System.out.println(part + ": " + call + " answered " + got + ", due is " + want);
        }
    }

    static void dueSame(String what, String got, String want) {
        if (!got.equals(want)) {
            wrong++;
            System.out.println(part + ": " + what + " is\n    " + got + "\n  due is\n    " + want);
        }
    }

    static void end(String good) {
        System.out.println(wrong == 0 ? good : wrong + " answers are not as due");
        if (wrong != 0) {
            System.exit(1);
        }
    }

    static void typeAll(FoldWalks w, String text) {
        for (char c : text.toCharArray()) {
            w.type(c);
        }
    }

    static FoldWalks of(String function) {
        FoldWalks w = new FoldWalks();
        typeAll(w, function);
        if (w.read() < 1) {
            due("read of " + function, 0, 1);
        }
        return w;
    }

    /** An object with a function and its first walk, of some first and greatest length. */
    static FoldWalks begun(String function, int first, int greatest, int x, int y, int sign) {
        FoldWalks w = of(function);
        w.set(0, first);
        w.set(1, greatest);
        due("begin(" + x + ", " + y + ", " + sign + ") of " + function, w.begin(x, y, sign), 0);
        return w;
    }

    /** x times y, walked along the line y = 0 through the crossing that lies at 0. */
    static FoldWalks crossed() {
        FoldWalks w = of("xy");
        due("begin(-100, 0, 1)", w.begin(-100, 0, 1), 0);
        due("step(0, 4)", w.step(0, 4), 4);
        return w;
    }

    static void dueWalk(FoldWalks w, int walk, int... wants) {
        for (int what = 0; what < wants.length; what++) {
            due("walkOf(" + walk + ", " + what + ")", w.walkOf(walk, what), wants[what]);
        }
    }

    static void duePlace(FoldWalks w, int walk, int place, int... wants) {
        for (int what = 0; what < wants.length; what++) {
            due("placeOf(" + walk + ", " + place + ", " + what + ")", w.placeOf(walk, place, what), wants[what]);
        }
    }

    static void dueTerm(FoldWalks w, int index, int... wants) {
        for (int what = 0; what < wants.length; what++) {
            due("termOf(" + index + ", " + what + ")", w.termOf(index, what), wants[what]);
        }
    }

    /** A correction's x, y and rounds, or NOT_FOUND for all three. */
    static void dueCorrected(FoldWalks w, int x, int y, int... wants) {
        for (int what = 0; what < 3; what++) {
            int want = wants.length == 3 ? wants[what] : NOT_FOUND;
            due("corrected(" + x + ", " + y + ", " + what + ")", w.corrected(x, y, what), want);
        }
    }

    /** All that an object answers about its function, settings and walks, without changing it. */
    static String told(FoldWalks w) {
        StringJoiner told = new StringJoiner(" ");
        for (int what : new int[] {0, 1, 2, 3, 4, 10, 11, 12}) {
            told.add(String.valueOf(w.count(what)));
        }
        for (int index = 0; index < w.count(0); index++) {
            told.add("term");
            for (int what = 0; what < 3; what++) {
                told.add(String.valueOf(w.termOf(index, what)));
            }
        }
        for (int walk = 0; walk < w.count(1); walk++) {
            told.add("walk");
            for (int what = 0; what <= 8; what++) {
                told.add(String.valueOf(w.walkOf(walk, what)));
            }
            for (int place = 0; place < w.walkOf(walk, 0); place++) {
                told.add("at");
                for (int what = 0; what < 4; what++) {
                    told.add(String.valueOf(w.placeOf(walk, place, what)));
                }
            }
        }
        return told.toString();
    }

    static String toldText(FoldWalks w) {
        return w.count(6) + " characters, fault " + w.fault(0) + " " + w.fault(1);
    }

    /** What is told, the text, and all of the history, which is undone by it. */
    static String toldWhole(FoldWalks w) {
        StringBuilder whole = new StringBuilder(toldText(w)).append('\n').append(told(w));
        for (int left = w.count(5); left > 0; left--) {
            whole.append("\n    undo ").append(w.undo()).append(": ").append(told(w));
        }
        return whole.append("\n    read ").append(w.read()).append(": ").append(told(w)).toString();
    }
}
