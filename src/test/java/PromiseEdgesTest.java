/** One test for each sentence of a promise that names a boundary case. */
public final class PromiseEdgesTest {
    public static void main(String[] args) {
        sizes();
        nothingAtFirst();
        jointNumber();
        jointFull();
        unjointLatest();
        unjointEmpty();
        openTellsWhatChanges();
        openWrongFace();
        directionNumber();
        directionTooFar();
        directionAllZero();
        directionFull();
        pullReplaces();
        pullTooFar();
        blockCounts();
        blockWhat();
        blockWrong();
        cornerLowest();
        cornerAboveZero();
        cornerWrong();
        findSides();
        besideNoFace();
        besideWrong();
        goesTaken();
        goesWrong();
        takeLeast();
        takeNone();
        takeWrong();
        orderCounts();
        orderFull();
        takenInOrder();
        takenWrong();
        backCounts();
        modeTaken();
        modeWrong();
        toldCounts();
        toldCornersOnce();
        toldWrong();
        Run.end("edges of the promises");
    }

    private static String lastCorner(int x, int y, int z) {
        return x + " " + y + " " + z + " / 1";
    }

    private static void sizes() {
        Run.sentence("1: Sizes below 1 are 1, above 8 they are 8.");
        int[] given = {Integer.MIN_VALUE, -8, -1, 0, 1, 2, 7, 8, 9, 64, Integer.MAX_VALUE};
        int[] sizes = {1, 1, 1, 1, 1, 2, 7, 8, 8, 8, 8};
        for (int i = 0; i < given.length; i++) {
            Run.on(given[i], 3, 5).dueCorner(0, 7, lastCorner(sizes[i], 3, 5));
            Run.on(3, given[i], 5).dueCorner(0, 7, lastCorner(3, sizes[i], 5));
            Run.on(3, 5, given[i]).dueCorner(0, 7, lastCorner(3, 5, sizes[i]));
            int inside = sizes[i] - 1;
            Run.on(given[i], given[i], given[i]).due("block(0, 3)", inside * inside * inside);
        }
    }

    private static void nothingAtFirst() {
        Run.sentence("1: No joints, no directions.");
        Run.on(3, 4, 5).due("told(0)", 0).due("told(1)", 0).due("told(2)", 0).due("told(3)", 8).due("blocks()", 1)
                .due("beside(0, 0)", Run.BOUNDS).due("goes(0, 0)", Run.BOUNDS).due("taken(0, 0)", Run.BOUNDS)
                .due("find(0)", 0).due("find(1)", -1).due("block(0, 4)", 0)
                .due("unjoint()", -1).due("take(0)", -1).due("order()", 0).due("back()", 0)
                .due("joint(1, 0, 0, 1)", 0).due("direction(1, 0, 0)", 0);
        // What one object is told, another one does not know.
        Run.on(3, 4, 5).due("told(0)", 0).due("told(1)", 0);
    }

    private static void jointNumber() {
        Run.sentence("2: A joint more: its number.");
        Run run = Run.on(8, 8, 8);
        for (int j = 0; j < 6; j++) {
            run.due("joint(0, 1, 0, " + (7 - j) + ")", j).due("told(0)", j + 1).due("blocks()", j + 2);
        }
        run.first("unjoint()", "unjoint()").due("joint(1, 0, 0, 1)", 4).due("joint(1, 0, 0, 2)", 5).due("blocks()", 15);
    }

    private static void jointFull() {
        Run.sentence("2: IllegalStateException: there are 6.");
        Run run = sixJoints();
        run.due("joint(0, 1, 0, 2)", Run.STATE).due("joint(1, 1, 1, 3)", Run.STATE).due("told(0)", 6).due("blocks()", 7);
        run.due("unjoint()", 5).due("joint(0, 1, 0, 2)", 5).due("joint(0, 1, 0, 3)", Run.STATE).due("blocks()", 12);
    }

    private static void unjointLatest() {
        Run.sentence("3: The latest joint goes: how many are left");
        Run run = sixJoints();
        for (int left = 5; left >= 0; left--) {
            run.due("unjoint()", left).due("told(0)", left).due("blocks()", left + 1).due("told(3)", 8 + 4 * left);
            run.due("beside(0, " + left + ")", Run.BOUNDS).due("find(" + ((2 << left) - 1) + ")", -1);
            run.dueCorner(left, 0, left + " 0 0 / 1").dueCorner(left, 7, "8 4 4 / 1");
        }
        // The same plane can come again, and is as it was.
        Run.on(4, 4, 4).first("joint(1, 0, 0, 1)", "unjoint()").due("joint(1, 0, 0, 1)", 0).due("blocks()", 2).due("told(3)", 12)
                .dueCorners(1, "1 0 0 / 1", "1 0 4 / 1", "1 4 0 / 1", "1 4 4 / 1", "4 0 0 / 1", "4 0 4 / 1", "4 4 0 / 1", "4 4 4 / 1");
        // Of joints that went, nothing is left that a new one could meet.
        sixJoints().first("unjoint()", "unjoint()", "unjoint()", "unjoint()").due("joint(0, 1, 0, 1)", 2)
                .due("blocks()", 6).due("told(3)", 24).dueCorners(5, "2 1 0 / 1", "2 1 4 / 1", "2 4 0 / 1", "2 4 4 / 1",
                        "8 1 0 / 1", "8 1 4 / 1", "8 4 0 / 1", "8 4 4 / 1");
    }

    private static void unjointEmpty() {
        Run.sentence("3: NONE when there are none.");
        Run.on(4, 4, 4).due("unjoint()", -1).due("unjoint()", -1).due("told(0)", 0).due("blocks()", 1)
                .due("joint(1, 0, 0, 1)", 0).due("unjoint()", 0).due("unjoint()", -1).due("told(0)", 0)
                .due("joint(1, 0, 0, 2)", 0).due("blocks()", 2);
    }

    private static void openTellsWhatChanges() {
        Run.sentence("4: A box face is open, or shut: whether that is another thing than before.");
        Run run = Run.on(2, 2, 2);
        for (int f = 6; f < 12; f++) {
            run.due("open(" + f + ", false)", false).due("open(" + f + ", true)", true).due("open(" + f + ", true)", false);
        }
        for (int f = 6; f < 12; f++) {
            run.due("open(" + f + ", true)", false).due("open(" + f + ", false)", true).due("open(" + f + ", false)", false);
        }
        run.first("open(9, true)", "joint(1, 0, 0, 1)", "unjoint()", "back()").due("open(9, true)", false);
    }

    private static void openWrongFace() {
        Run.sentence("4: IndexOutOfBoundsException: it is not 6 to 11.");
        Run run = sixJoints();
        for (int face : new int[] {Integer.MIN_VALUE, -1, 0, 1, 5, 12, 38, 43, Integer.MAX_VALUE}) {
            run.due("open(" + face + ", true)", Run.BOUNDS).due("open(" + face + ", false)", Run.BOUNDS);
        }
        run.due("open(6, true)", true).due("open(11, true)", true);
    }

    private static void directionNumber() {
        Run.sentence("5: A direction more: its number.");
        Run run = Run.on(2, 2, 2);
        for (int i = 0; i < 8; i++) {
            run.due("direction(1, 1, " + i / 2 + ")", i).due("told(1)", i + 1);
        }
    }

    private static void directionTooFar() {
        Run.sentence("5: IllegalArgumentException: u, v, w are not -9 to 9");
        for (String form : new String[] {"direction(%d, 0, 1)", "direction(1, %d, 0)", "direction(0, 1, %d)"}) {
            for (int part : new int[] {Integer.MIN_VALUE, -10, 10, Integer.MAX_VALUE}) {
                Run.on(2, 2, 2).due(String.format(form, part), Run.ARGUMENT).due("told(1)", 0).due("goes(0, 0)", Run.BOUNDS);
            }
            Run.on(2, 2, 2).due(String.format(form, -9), 0).due(String.format(form, 9), 1);
        }
        Run.on(2, 2, 2).due("direction(9, 9, 9)", 0).due("direction(-9, -9, -9)", 1).due("direction(10, 10, 10)", Run.ARGUMENT);
    }

    private static void directionAllZero() {
        Run.sentence("5: IllegalArgumentException: .. or all 0");
        Run.on(2, 2, 2).due("direction(0, 0, 0)", Run.ARGUMENT).due("told(1)", 0)
                .due("direction(1, 0, 0)", 0).due("direction(0, -1, 0)", 1).due("direction(0, 0, 1)", 2);
    }

    private static void directionFull() {
        Run.sentence("5: IllegalStateException: there are 8.");
        Run run = Run.on(2, 2, 2);
        for (int i = 0; i < 8; i++) {
            run.due("direction(0, 0, 1)", i);
        }
        run.due("direction(0, 0, 1)", Run.STATE).due("direction(9, -9, 9)", Run.STATE).due("told(1)", 8);
        run.first("joint(1, 0, 0, 1)", "unjoint()", "back()").due("direction(0, 0, 1)", Run.STATE);
    }

    private static void pullReplaces() {
        Run.sentence("6: What pulls.");
        Run.on(2, 2, 2).first("open(10, true)").due("mode(0)", 1).first("pull(0, 0, 1)").due("mode(0)", 0)
                .first("pull(0, 0, -9)").due("mode(0)", 1).first("pull(9, 0, -9)").due("mode(0)", 17)
                .first("pull(-9, 9, -9)").due("mode(0)", 100 + 12 * 6 + 9).first("pull(0, 0, 0)").due("mode(0)", 0);
    }

    private static void pullTooFar() {
        Run.sentence("6: IllegalArgumentException: u, v, w are not -9 to 9.");
        for (String form : new String[] {"pull(%d, 0, 1)", "pull(0, %d, 1)", "pull(0, 0, %d)"}) {
            for (int part : new int[] {Integer.MIN_VALUE, -10, 10, Integer.MAX_VALUE}) {
                Run.on(2, 2, 2).first("open(10, true)").due(String.format(form, part), Run.ARGUMENT).due("mode(0)", 1);
            }
            Run.on(2, 2, 2).first(String.format(form, -9), String.format(form, 9));
        }
    }

    private static void blockCounts() {
        Run.sentence("7: How many blocks there are.");
        Run run = Run.on(7, 6, 5).due("blocks()", 1);
        String[] planes = {"3, -2, 1, 4", "1, 4, -2, 7", "-1, 1, 5, 9", "2, 2, 3, 14", "5, -6, 1, -2", "1, 1, -4, -3"};
        // Six planes cut space into 42 parts at most.
        int[] counts = {2, 4, 8, 15, 26, 42};
        for (int j = 0; j < 6; j++) {
            run.first("joint(" + planes[j] + ")").due("blocks()", counts[j]);
        }
        for (int j = 5; j > 0; j--) {
            run.first("unjoint()").due("blocks()", counts[j - 1]);
        }
        run.first("unjoint()").due("blocks()", 1);
    }

    private static void blockWhat() {
        Run.sentence("8: its sides (what = 0), its faces as bits (1), how many corners (2), how many whole points inside it (3), whether it is taken (4)");
        Run.on(4, 3, 2).due("block(0, 0)", 0).due("block(0, 1)", 0xFC0).due("block(0, 2)", 8).due("block(0, 3)", 6).due("block(0, 4)", 0);
        Run.on(4, 4, 4).first("joint(1, 1, 1, 5)", "open(11, true)", "direction(1, -1, 0)", "direction(0, 0, 1)")
                .due("block(1, 0)", 1).due("block(1, 1)", 0xFC1).due("block(0, 1)", 0xFC1)
                .due("block(0, 2)", 10).due("block(1, 2)", 10).due("block(0, 3)", 4).due("block(1, 3)", 17)
                .due("take(1)", 1).due("block(0, 4)", 0).due("block(1, 4)", 1).first("back()").due("block(1, 4)", 0);
        // No whole point: all of them lie on the joint, or on the border.
        Run.on(2, 2, 2).first("joint(1, 1, 1, 3)").due("block(0, 3)", 0).due("block(1, 3)", 0);
        Run.on(8, 8, 1).due("block(0, 3)", 0);
    }

    private static void blockWrong() {
        Run.sentence("8: IndexOutOfBoundsException: there is no such block or what.");
        Run run = twoBlocks();
        for (int what = 0; what < 5; what++) {
            run.first("block(0, " + what + ")", "block(1, " + what + ")");
            run.due("block(-1, " + what + ")", Run.BOUNDS).due("block(2, " + what + ")", Run.BOUNDS);
        }
        run.due("block(0, -1)", Run.BOUNDS).due("block(0, 5)", Run.BOUNDS).due("block(1, 5)", Run.BOUNDS).due("block(2, 5)", Run.BOUNDS);
        for (int far : Run.FAR) {
            run.due("block(" + far + ", 0)", Run.BOUNDS).due("block(0, " + far + ")", Run.BOUNDS);
        }
        run.first("unjoint()").due("block(1, 0)", Run.BOUNDS).due("block(0, 0)", 0);
    }

    private static void cornerLowest() {
        Run.sentence("9: what is below all of them (3) .. as small as can be");
        // x = 1/2, y = 1/3 and z = 1/4 meet over 12; each with a whole one over less.
        Run.on(1, 1, 1).first("joint(6, 0, 0, 3)", "joint(0, 6, 0, 2)", "joint(0, 0, 4, 1)")
                .dueCorners(0, "0 0 0 / 1", "0 0 1 / 4", "0 1 0 / 3", "0 4 3 / 12", "1 0 0 / 2", "2 0 1 / 4", "3 2 0 / 6", "6 4 3 / 12");
        Run.on(8, 8, 8).first("joint(6, 0, 0, 6)").dueCorner(0, 4, "1 0 0 / 1").dueCorner(1, 0, "1 0 0 / 1");
    }

    private static void cornerAboveZero() {
        Run.sentence("9: what is below all of them (3), above 0");
        String[] planes = {"6, 0, 0, 3", "-6, 0, 0, -3", "2, 0, 0, 1", "-2, 0, 0, -1"};
        for (String plane : planes) {
            int low = plane.startsWith("-") ? 1 : 0;
            Run.on(1, 1, 1).first("joint(" + plane + ")").dueCorner(low, 0, "0 0 0 / 1")
                    .dueCorner(low, 4, "1 0 0 / 2").dueCorner(low, 7, "1 2 2 / 2");
        }
        Run.on(1, 1, 1).first("joint(-3, -3, -3, -4)").dueCorner(0, 0, "0 1 3 / 3");
    }

    private static void cornerWrong() {
        Run.sentence("9: IndexOutOfBoundsException: there is no such block, corner or what.");
        Run run = Run.on(4, 4, 4).first("joint(1, 1, 1, 11)").due("block(0, 2)", 10).due("block(1, 2)", 4);
        for (int what = 0; what < 4; what++) {
            run.first("corner(0, 9, " + what + ")", "corner(1, 3, " + what + ")");
            run.due("corner(0, 10, " + what + ")", Run.BOUNDS).due("corner(1, 4, " + what + ")", Run.BOUNDS);
            run.due("corner(0, -1, " + what + ")", Run.BOUNDS).due("corner(2, 0, " + what + ")", Run.BOUNDS);
            run.due("corner(-1, 0, " + what + ")", Run.BOUNDS);
        }
        run.due("corner(0, 0, -1)", Run.BOUNDS).due("corner(0, 0, 4)", Run.BOUNDS).due("corner(1, 3, 4)", Run.BOUNDS);
        for (int far : Run.FAR) {
            run.due("corner(" + far + ", 0, 0)", Run.BOUNDS).due("corner(0, " + far + ", 0)", Run.BOUNDS);
            run.due("corner(0, 0, " + far + ")", Run.BOUNDS);
        }
    }

    private static void findSides() {
        Run.sentence("10: The block with these sides; NONE when there is none.");
        // Sides 2 would be below x = 1 and above x = 2.
        Run run = Run.on(4, 4, 4).first("joint(1, 0, 0, 1)", "joint(1, 0, 0, 2)")
                .due("find(0)", 0).due("find(1)", 1).due("find(2)", -1).due("find(3)", 2);
        for (int sides : new int[] {Integer.MIN_VALUE, -64, -1, 4, 5, 7, 32, 63, 64, 65, 67, 1 << 30, Integer.MAX_VALUE}) {
            run.due("find(" + sides + ")", -1);
        }
        run.first("unjoint()").due("find(1)", 1).due("find(3)", -1);
        sixJoints().due("find(63)", 6).due("find(62)", -1).due("find(64)", -1).due("find(127)", -1);
    }

    private static void besideNoFace() {
        Run.sentence("11: The block beside a block at a joint; NONE if that is no face of it.");
        sixJoints().due("beside(0, 0)", 1).due("beside(0, 1)", -1).due("beside(0, 5)", -1)
                .due("beside(3, 2)", 2).due("beside(3, 3)", 4).due("beside(3, 1)", -1).due("beside(3, 4)", -1)
                .due("beside(6, 5)", 5).due("beside(6, 4)", -1).due("beside(6, 0)", -1);
        // In a line, in a point.
        Run.on(4, 4, 4).first("joint(1, 0, 0, 2)", "joint(0, 1, 0, 2)", "joint(1, 1, 0, 4)").due("beside(0, 2)", -1).due("beside(5, 2)", -1);
        Run.on(2, 2, 2).first("joint(1, 0, 0, 1)", "joint(0, 1, 0, 1)", "joint(0, 0, 1, 1)", "joint(1, 1, 1, 3)")
                .due("beside(0, 3)", -1).due("beside(13, 3)", -1);
        // A block that is taken is beside it still.
        twoBlocks().due("take(1)", 0).due("beside(0, 0)", 1).due("beside(1, 0)", 0);
    }

    private static void besideWrong() {
        Run.sentence("11: IndexOutOfBoundsException: there is no such block or joint.");
        Run run = twoBlocks().due("beside(0, 1)", Run.BOUNDS).due("beside(0, -1)", Run.BOUNDS).due("beside(0, 6)", Run.BOUNDS)
                .due("beside(-1, 0)", Run.BOUNDS).due("beside(2, 0)", Run.BOUNDS).due("beside(2, 1)", Run.BOUNDS);
        for (int far : Run.FAR) {
            run.due("beside(" + far + ", 0)", Run.BOUNDS).due("beside(0, " + far + ")", Run.BOUNDS);
        }
        run.first("unjoint()").due("beside(0, 0)", Run.BOUNDS);
        sixJoints().due("beside(6, 5)", 5).due("beside(6, 6)", Run.BOUNDS).due("beside(7, 5)", Run.BOUNDS);
    }

    private static void goesTaken() {
        Run.sentence("12: Whether a block can go along a direction.");
        twoBlocks().due("goes(1, 0)", true).due("goes(0, 0)", false).due("take(1)", 0).due("goes(1, 0)", false).due("goes(0, 0)", true);
    }

    private static void goesWrong() {
        Run.sentence("12: IndexOutOfBoundsException: there is no such block or direction.");
        Run run = twoBlocks().due("goes(-1, 0)", Run.BOUNDS).due("goes(2, 0)", Run.BOUNDS)
                .due("goes(0, -1)", Run.BOUNDS).due("goes(0, 1)", Run.BOUNDS).due("goes(2, 1)", Run.BOUNDS);
        for (int far : Run.FAR) {
            run.due("goes(" + far + ", 0)", Run.BOUNDS).due("goes(0, " + far + ")", Run.BOUNDS);
        }
        run.first("take(1)").due("goes(1, 1)", Run.BOUNDS).due("goes(1, -1)", Run.BOUNDS);
        Run.on(4, 4, 4).due("goes(0, 0)", Run.BOUNDS);
    }

    private static void takeLeast() {
        Run.sentence("13: A block is taken by the least direction along which it can go: that");
        Run.on(4, 4, 4).first("open(11, true)", "direction(0, 0, -1)", "direction(1, 0, 1)", "direction(0, 0, 1)", "direction(0, 0, 2)")
                .due("take(0)", 2).due("block(0, 4)", 1).dueTaken(0, 2);
    }

    private static void takeNone() {
        Run.sentence("13: NONE if there is none.");
        twoBlocks().due("take(0)", -1).due("block(0, 4)", 0).due("told(2)", 0).due("take(1)", 0).due("take(1)", -1).due("told(2)", 1)
                .due("take(0)", 0).due("take(0)", -1).dueTaken(1, 0, 0, 0);
        Run.on(4, 4, 4).first("open(11, true)").due("take(0)", -1).due("told(2)", 0);
    }

    private static void takeWrong() {
        Run.sentence("13: IndexOutOfBoundsException: there is no such block.");
        Run run = twoBlocks().due("take(-1)", Run.BOUNDS).due("take(2)", Run.BOUNDS);
        for (int far : Run.FAR) {
            run.due("take(" + far + ")", Run.BOUNDS);
        }
        run.due("told(2)", 0);
    }

    private static void orderCounts() {
        Run.sentence("14: ORDER: how many blocks were taken by it.");
        Run.on(4, 4, 4).due("order()", 0).first("direction(0, 0, 1)").due("order()", 0).first("open(11, true)").due("order()", 1).due("order()", 0);
        twoBlocks().due("take(1)", 0).due("order()", 1).due("order()", 0).dueTaken(1, 0, 0, 0);
        // The upper block is stopped by x = 4, and the lower one by the upper one.
        Run.on(4, 4, 4).first("joint(1, 0, 1, 4)", "open(11, true)", "direction(1, 0, 4)").due("order()", 0)
                .first("open(7, true)").due("order()", 2).dueTaken(1, 0, 0, 0);
    }

    private static void orderFull() {
        Run.sentence("14: ORDER, of as many blocks as there can be");
        Run run = Run.on(7, 6, 5).first("open(11, true)", "direction(0, 0, 1)");
        String[] planes = {"3, -2, 1, 4", "1, 4, -2, 7", "-1, 1, 5, 9", "2, 2, 3, 14", "5, -6, 1, -2", "1, 1, -4, -3"};
        for (String plane : planes) {
            run.first("joint(" + plane + ")");
        }
        run.due("order()", 42).due("told(2)", 42).due("taken(41, 1)", 0).due("taken(42, 0)", Run.BOUNDS);
        for (int k = 0; k < 42; k++) {
            run.due("block(" + k + ", 4)", 1).due("take(" + k + ")", -1);
        }
        run.due("order()", 0).due("back()", 42).due("order()", 42);
    }

    private static void takenInOrder() {
        Run.sentence("15: The i-th block that was taken (what = 0), from 0 on, and by which direction (1).");
        Run.on(4, 4, 4).first("joint(1, 0, 0, 2)", "joint(0, 0, 1, 2)", "open(11, true)", "open(10, true)")
                .first("direction(0, 0, 1)", "direction(0, 0, -1)").due("take(3)", 0).due("take(0)", 1).due("take(2)", 0)
                .dueTaken(3, 0, 0, 1, 2, 0).due("order()", 1).dueTaken(3, 0, 0, 1, 2, 0, 1, 0)
                .due("back()", 4).due("take(1)", 1).dueTaken(1, 1);
    }

    private static void takenWrong() {
        Run.sentence("15: IndexOutOfBoundsException: there are not so many, or no such what.");
        Run run = twoBlocks().due("taken(0, 0)", Run.BOUNDS).due("taken(0, 1)", Run.BOUNDS).due("take(1)", 0)
                .due("taken(0, 0)", 1).due("taken(1, 0)", Run.BOUNDS).due("taken(-1, 0)", Run.BOUNDS)
                .due("taken(0, 2)", Run.BOUNDS).due("taken(0, -1)", Run.BOUNDS).due("taken(1, 2)", Run.BOUNDS);
        for (int far : Run.FAR) {
            run.due("taken(" + far + ", 0)", Run.BOUNDS).due("taken(" + far + ", 1)", Run.BOUNDS).due("taken(0, " + far + ")", Run.BOUNDS);
        }
        run.first("back()").due("taken(0, 0)", Run.BOUNDS);
    }

    private static void backCounts() {
        Run.sentence("16: No block is taken: how many were.");
        twoBlocks().due("back()", 0).due("take(1)", 0).due("back()", 1).due("back()", 0).due("told(2)", 0).due("block(1, 4)", 0)
                .due("goes(0, 0)", false).due("order()", 2).due("back()", 2).due("order()", 2).dueTaken(1, 0, 0, 0)
                .due("told(0)", 1).due("told(1)", 1).due("open(11, true)", false);
    }

    private static void modeTaken() {
        Run.sentence("17: What a block does when it is pulled; NONE if it is taken.");
        twoBlocks().first("pull(0, 0, 1)").due("mode(1)", 1).due("mode(0)", 0).due("take(1)", 0).due("mode(1)", -1).due("mode(0)", 1)
                .first("pull(0, 0, 0)").due("mode(1)", -1).due("mode(0)", 0).first("back()").due("mode(1)", 0);
    }

    private static void modeWrong() {
        Run.sentence("17: IndexOutOfBoundsException: there is no such block.");
        Run run = twoBlocks().due("mode(-1)", Run.BOUNDS).due("mode(2)", Run.BOUNDS);
        for (int far : Run.FAR) {
            run.due("mode(" + far + ")", Run.BOUNDS);
        }
        run.first("unjoint()").due("mode(1)", Run.BOUNDS);
    }

    private static void toldCounts() {
        Run.sentence("18: Joints (what = 0), directions (1), taken blocks (2)");
        twoBlocks().first("direction(0, 1, 0)", "direction(1, 0, 0)").due("told(0)", 1).due("told(1)", 3).due("told(2)", 0)
                .first("order()").due("told(2)", 2).due("told(0)", 1).due("told(1)", 3);
        sixJoints().due("told(0)", 6);
    }

    private static void toldCornersOnce() {
        Run.sentence("18: corners of all blocks, each once (3)");
        sixJoints().due("told(3)", 8 + 4 * 6);
        // Cuts through corners of the box alone make none more.
        Run.on(4, 4, 4).first("joint(1, -1, 0, 0)").due("told(3)", 8).first("joint(1, 1, 0, 4)").due("told(3)", 10)
                .first("joint(1, 0, 0, 2)").due("told(3)", 14).first("unjoint()").due("told(3)", 10);
        // Four joints through one point; it is one corner of all 14 blocks.
        Run.on(2, 2, 2).first("joint(1, 0, 0, 1)", "joint(0, 1, 0, 1)", "joint(0, 0, 1, 1)").due("told(3)", 27)
                .first("joint(1, 1, 1, 3)").due("told(3)", 27).due("blocks()", 14);
        // Those of a block that is taken are told too.
        twoBlocks().due("told(3)", 12).first("take(1)").due("told(3)", 12);
    }

    private static void toldWrong() {
        Run.sentence("18: IndexOutOfBoundsException: another what.");
        Run run = twoBlocks().due("told(-1)", Run.BOUNDS).due("told(4)", Run.BOUNDS);
        for (int far : Run.FAR) {
            run.due("told(" + far + ")", Run.BOUNDS);
        }
    }

    /** x = 1 to x = 6: block k lies between x = k and x = k + 1, the last one goes on to x = 8. */
    private static Run sixJoints() {
        Run run = Run.on(8, 4, 4);
        for (int j = 0; j < 6; j++) {
            run.first("joint(1, 0, 0, " + (j + 1) + ")");
        }
        return run;
    }

    /** Block 0 lies under block 1, which can go up. */
    private static Run twoBlocks() {
        return Run.on(4, 4, 4).first("joint(0, 0, 1, 2)", "open(11, true)", "direction(0, 0, 1)");
    }
}
