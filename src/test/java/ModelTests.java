import java.util.Random;

/** Compares the class with the model of the document over many runs of calls; the seeds are fixed. */
public final class ModelTests {
    private static final int RUNS = 1500;
    private static final int CALLS = 500;
    private static final String[] TEXTS = {
        "xx-yy", "xy", "xxx-xy", "xxy-yyy", "xx+yy-1", "yy-xxx-xx", "xxx+yyy-3xy", "x-y", "xxx-3x-y",
        "yy-xxx+x", "xyx-yyy+xy", "xy-x-y+1", "5xxx+5yyy-4xy+x-y+1", "xxy-xyy", "2xx-3yy+xy", "x", "3y", "4"
    };
    private static final String KEYS = "xxxxyyyy++---1122345";

    private int wrong;
    private int branches;
    private int crossings;
    private int folds;
    private int full;
    private int stuck;
    private int families;
    private int limits;
    private final Random random = new Random(20261119);
    private FoldWalks real;
    private Model model;
    private StringBuilder told;

    public static void main(String[] args) {
        ModelTests tests = new ModelTests();
        for (int run = 0; run < RUNS && tests.wrong == 0; run++) {
            tests.run(run);
        }
        tests.checkReach();
        System.out.println(tests.wrong == 0 ? "class and model agree" : "class and model differ");
        if (tests.wrong != 0) {
            System.exit(1);
        }
    }

    /** Runs that meet nothing of note would prove nothing. */
    private void checkReach() {
        System.out.println("met: " + branches + " branches, " + crossings + " crossings, " + folds + " folds, "
            + full + " full, " + stuck + " stuck, " + families + " families dropped, " + limits + " limits");
        if (wrong == 0 && (branches < 50 || crossings < 50 || folds < 50 || full < 50 || stuck < 50
            || families < 20 || limits < 50)) {
            wrong++;
            System.out.println("the runs meet too little");
        }
    }

    private void run(int number) {
        real = new FoldWalks();
        model = new Model();
        told = new StringBuilder();
        for (int call = 0; call < CALLS && wrong == 0; call++) {
            oneCall();
            if (random.nextInt(25) == 0) {
                compareAll();
            }
        }
        if (wrong != 0) {
            System.out.println("run " + number + ":\n" + told);
        }
    }

    private void same(String call, long got, long want) {
        told.append(call).append(" -> ").append(got).append('\n');
        if (got != want) {
            wrong++;
            told.append("   due is ").append(want).append('\n');
        }
        if (want == Model.LIMIT) {
            limits++;
        }
    }

    private int n(int least, int greatest) {
        return least + random.nextInt(greatest - least + 1);
    }

    /** Mostly in the range, sometimes just beside it, rarely far beyond. */
    private int about(int least, int greatest) {
        int dice = random.nextInt(40);
        if (dice == 0) {
            return least - 1;
        }
        if (dice == 1) {
            return greatest + 1;
        }
        if (dice == 2) {
            return new int[] {random.nextInt(), Integer.MIN_VALUE, Integer.MAX_VALUE}[random.nextInt(3)];
        }
        return n(least, greatest);
    }

    private int coordinate() {
        int dice = random.nextInt(10);
        return dice < 4 ? n(-60, 60) : dice < 7 ? n(-300, 300) : dice == 7 ? 256 * n(-4, 4) : about(-1024, 1024);
    }

    private int side() {
        return random.nextInt(20) == 0 ? n(-2, 2) : random.nextBoolean() ? 1 : -1;
    }

    private void oneCall() {
        int dice = random.nextInt(100);
        if (dice < 3) {
            functionCall();
        } else if (dice < 8) {
            textCalls();
        } else if (dice < 62) {
            walkCall();
        } else if (dice < 66) {
            settingOrUndo();
        } else {
            askCall();
        }
    }

    private void functionCall() {
        if (random.nextInt(3) > 0) {
            int factor = about(-5, 5);
            int x = about(0, 3);
            int y = about(0, 3);
            same("term(" + factor + ", " + x + ", " + y + ")", real.term(factor, x, y), model.term(factor, x, y));
        } else {
            int index = about(0, 6);
            same("dropTerm(" + index + ")", real.dropTerm(index), model.dropTerm(index));
        }
    }

    private void textCalls() {
        int dice = random.nextInt(5);
        if (dice < 2) {
            same("clearText()", real.clearText(), model.clearText());
            typeAll(TEXTS[random.nextInt(TEXTS.length)]);
            same("read()", real.read(), model.read());
        } else if (dice == 2) {
            same("clearText()", real.clearText(), model.clearText());
            for (int i = n(0, 25); i > 0; i--) {
                typeAll(String.valueOf(KEYS.charAt(random.nextInt(KEYS.length()))));
                askFault();
            }
        } else if (dice == 3) {
            int character = about(32, 126);
            same("type(" + character + ")", real.type(character), model.type(character));
            for (int i = random.nextInt(8) == 0 ? 62 : 0; i > 0; i--) {
                typeAll("x");
            }
            askFault();
        } else {
            same("read()", real.read(), model.read());
        }
    }

    private void typeAll(String text) {
        for (char c : text.toCharArray()) {
            same("type(" + (int) c + ")", real.type(c), model.type(c));
        }
    }

    private void askFault() {
        for (int what = -1; what <= 2; what++) {
            same("fault(" + what + ")", real.fault(what), model.fault(what));
        }
    }

    private int walk() {
        int walks = model.now.walks.size();
        return walks == 0 || random.nextInt(12) == 0 ? about(0, 4) : n(0, walks - 1);
    }

    private void walkCall() {
        int dice = random.nextInt(100);
        if (dice < 25) {
            int x = coordinate();
            int y = coordinate();
            int sign = side();
            same("begin(" + x + ", " + y + ", " + sign + ")", real.begin(x, y, sign), model.begin(x, y, sign));
        } else if (dice < 60) {
            int walk = walk();
            int many = random.nextInt(3) == 0 ? about(1, 40) : n(1, 6);
            int got = real.step(walk, many);
            same("step(" + walk + ", " + many + ")", got, model.step(walk, many));
            meetKinds(walk, got);
        } else if (dice < 85) {
            branch();
        } else {
            int walk = walk();
            int before = model.now.walks.size();
            int left = real.drop(walk);
            same("drop(" + walk + ")", left, model.drop(walk));
            if (left >= 0 && left < before - 1) {
                families++;
            }
        }
    }

    private void meetKinds(int walk, int added) {
        if (added < 0) {
            return;
        }
        folds += model.walkOf(walk, 4) > 0 ? 1 : 0;
        crossings += model.walkOf(walk, 5) > 0 ? 1 : 0;
        stuck += model.walkOf(walk, 3) == 1 ? 1 : 0;
        full += model.walkOf(walk, 3) == 2 ? 1 : 0;
    }

    private void branch() {
        int walk = walk();
        int place = about(0, 40);
        if (walk >= 0 && walk < model.now.walks.size()) {
            int places = model.now.walks.get(walk).places.size();
            place = about(0, places - 1);
            for (int i = 0; i < places && random.nextInt(15) > 0; i++) {
                if (model.placeOf(walk, i, 3) == 2) {
                    place = i;
                }
            }
        }
        int side = side();
        int got = real.branch(walk, place, side);
        same("branch(" + walk + ", " + place + ", " + side + ")", got, model.branch(walk, place, side));
        if (got >= 0) {
            branches++;
        }
    }

    private void settingOrUndo() {
        if (random.nextInt(3) == 0) {
            for (int i = n(1, 6); i > 0; i--) {
                same("undo()", real.undo(), model.undo());
            }
        } else {
            int what = about(0, 2);
            int value = random.nextBoolean() ? about(1, 20) : about(1, 128);
            same("set(" + what + ", " + value + ")", real.set(what, value), model.set(what, value));
        }
    }

    private void askCall() {
        int walk = walk();
        int what = about(0, 12);
        int x = coordinate();
        int y = coordinate();
        switch (random.nextInt(9)) {
            case 0 -> same("walkOf(" + walk + ", " + what + ")", real.walkOf(walk, what), model.walkOf(walk, what));
            case 1 -> {
                int place = about(0, 40);
                what = about(0, 3);
                same("placeOf(" + walk + ", " + place + ", " + what + ")", real.placeOf(walk, place, what),
                    model.placeOf(walk, place, what));
            }
            case 2 -> same("count(" + what + ")", real.count(what), model.count(what));
            case 3 -> same("meets(" + x + ")", real.meets(x), model.meets(x));
            case 4 -> same("lengthBits(" + walk + ")", real.lengthBits(walk), model.lengthBits(walk));
            case 5 -> same("nearest(" + walk + ", " + x + ", " + y + ")", real.nearest(walk, x, y),
                model.nearest(walk, x, y));
            case 6 -> {
                what = about(0, 2);
                same("value(" + x + ", " + y + ", " + what + ")", real.value(x, y, what), model.value(x, y, what));
            }
            case 7 -> {
                what = about(0, 2);
                same("corrected(" + x + ", " + y + ", " + what + ")", real.corrected(x, y, what),
                    model.corrected(x, y, what));
            }
            default -> {
                int index = about(0, 6);
                what = about(0, 2);
                same("termOf(" + index + ", " + what + ")", real.termOf(index, what), model.termOf(index, what));
            }
        }
    }

    private void compareAll() {
        for (int what = -1; what <= 13; what++) {
            same("count(" + what + ")", real.count(what), model.count(what));
        }
        for (int index = 0; index < 7; index++) {
            for (int what = 0; what < 3; what++) {
                same("termOf(" + index + ", " + what + ")", real.termOf(index, what), model.termOf(index, what));
            }
        }
        for (int walk = 0; walk < model.now.walks.size(); walk++) {
            for (int what = -1; what <= 9; what++) {
                same("walkOf(" + walk + ", " + what + ")", real.walkOf(walk, what), model.walkOf(walk, what));
            }
            same("lengthBits(" + walk + ")", real.lengthBits(walk), model.lengthBits(walk));
            for (int place = 0; place <= model.now.walks.get(walk).places.size(); place++) {
                for (int what = 0; what < 4; what++) {
                    same("placeOf(" + walk + ", " + place + ", " + what + ")", real.placeOf(walk, place, what),
                        model.placeOf(walk, place, what));
                }
            }
        }
    }
}
