/** One test for each sentence of 'Terms', and of 'What it is', that names a boundary case. */
public final class TermsEdgesTest {
    private static final String[] OUTWARD = {"-1, 0, 0", "1, 0, 0", "0, -1, 0", "0, 1, 0", "0, 0, -1", "0, 0, 1"};

    public static void main(String[] args) {
        calls();
        boxSizes();
        jointNumbers();
        jointParts();
        jointNotAllZero();
        jointLevel();
        jointCutsTheBox();
        jointsDiffer();
        aboveAndBelow();
        faceNumbers();
        shutAtFirst();
        blocksArePartsOfTheInside();
        sidesAreBits();
        blockNumbers();
        faceInALineIsNone();
        faceInAPointIsNone();
        faceInNothingIsNone();
        besideHasOtherSidesThere();
        cornersAreWhereThreeMeet();
        cornerOrder();
        inwardOfBoxFaces();
        inwardOfJoints();
        freeBoxFace();
        freeJoint();
        canGoIsZeroOrMore();
        canGoIsNotForTaken();
        directionNumbers();
        orderAgainAndAgain();
        firstPull();
        falls();
        slidesOnOne();
        slidesOnOneOnlyWhereItIsPressed();
        slidesOnOneNotByNothing();
        slidesOnTwo();
        slidesOnTwoLeastFirst();
        slidesOnTwoTurnedRound();
        slidesOnTwoNeedsTheLine();
        slidesOnTwoNeedsBothSlides();
        stays();
        jointMoreTakesBack();
        jointFewerTakesBack();
        Run.end("edges of the terms");
    }

    private static void calls() {
        Run.sentence("An object is used for at most 512 calls after it has been made");
        Run run = Run.on(4, 4, 4).first("open(11, true)", "direction(0, 0, 1)");
        for (int i = 0; i < 84; i++) {
            run.due("joint(0, 0, 1, 2)", 0).due("order()", 2).due("joint(0, 1, 0, 2)", 1);
            run.due("unjoint()", 1).due("unjoint()", 0).due("unjoint()", -1);
        }
        run.due("joint(0, 0, 1, 2)", 0).due("joint(0, 0, 1, 3)", 1).due("take(2)", 0).due("take(1)", 0);
        run.due("goes(0, 0)", true).due("mode(0)", 0);
    }

    private static void boxSizes() {
        Run.sentence("THE BOX goes from 0, 0, 0 to its sizes X, Y, Z, whole numbers 1 to 8.");
        Run.on(1, 1, 1).dueCorner(0, 0, "0 0 0 / 1").dueCorner(0, 7, "1 1 1 / 1").due("block(0, 3)", 0);
        Run.on(8, 8, 8).dueCorner(0, 0, "0 0 0 / 1").dueCorner(0, 7, "8 8 8 / 1").due("block(0, 3)", 343);
        Run.on(1, 8, 2).dueCorners(0, "0 0 0 / 1", "0 0 2 / 1", "0 8 0 / 1", "0 8 2 / 1",
                "1 0 0 / 1", "1 0 2 / 1", "1 8 0 / 1", "1 8 2 / 1");
    }

    private static void jointNumbers() {
        Run.sentence("JOINTS 0 to 5 are planes of all points with a x + b y + c z = d");
        Run run = Run.on(8, 1, 1);
        for (int j = 0; j < 6; j++) {
            run.due("joint(1, 0, 0, " + (j + 1) + ")", j);
        }
        run.due("joint(1, 0, 0, 7)", Run.STATE).due("blocks()", 7).due("beside(6, 5)", 5).due("beside(6, 6)", Run.BOUNDS);
        run.dueCorner(5, 0, "5 0 0 / 1").dueCorner(5, 7, "6 1 1 / 1");
    }

    private static void jointParts() {
        Run.sentence("a, b, c are -6 to 6");
        String[] forms = {"joint(%d, 0, 0, %d)", "joint(0, %d, 0, %d)", "joint(0, 0, %d, %d)"};
        for (String form : forms) {
            Run.on(4, 4, 4).due(String.format(form, 6, 9), 0).due("blocks()", 2);
            Run.on(4, 4, 4).due(String.format(form, -6, -9), 0).due("blocks()", 2);
            Run.on(4, 4, 4).due(String.format(form, 7, 9), Run.ARGUMENT).due("blocks()", 1);
            Run.on(4, 4, 4).due(String.format(form, -7, -9), Run.ARGUMENT).due("blocks()", 1);
            // Times 4 these run over: to 4, to -4, to 0 and to -4.
            int[] runOver = {(1 << 30) + 1, -(1 << 30) - 1, Integer.MIN_VALUE, Integer.MAX_VALUE};
            for (int part : runOver) {
                Run.on(4, 4, 4).due(String.format(form, part, 2), Run.ARGUMENT).due(String.format(form, part, -2), Run.ARGUMENT);
            }
        }
        Run.on(8, 8, 8).due("joint(6, -6, 6, 1)", 0).due("joint(-6, 6, 6, 1)", 1);
    }

    private static void jointNotAllZero() {
        Run.sentence("a, b, c are .. not all 0");
        for (int d = -1; d <= 1; d++) {
            Run.on(2, 2, 2).due("joint(0, 0, 0, " + d + ")", Run.ARGUMENT).due("told(0)", 0);
        }
        Run.on(2, 2, 2).due("joint(1, 0, 0, 1)", 0).due("joint(0, 1, 0, 1)", 1).due("joint(0, 0, 1, 1)", 2);
    }

    private static void jointLevel() {
        Run.sentence("d is -100 to 100");
        Run.on(8, 8, 8).due("joint(6, 6, 6, 100)", 0);
        Run.on(8, 8, 8).due("joint(-6, -6, -6, -100)", 0);
        Run.on(8, 8, 8).due("joint(6, 6, 6, 101)", Run.ARGUMENT).due("joint(-6, -6, -6, -101)", Run.ARGUMENT);
        Run.on(8, 8, 8).due("joint(6, 6, 6, " + Integer.MAX_VALUE + ")", Run.ARGUMENT)
                .due("joint(6, 6, 6, " + Integer.MIN_VALUE + ")", Run.ARGUMENT);
    }

    private static void jointCutsTheBox() {
        Run.sentence("some corner of the box has more than d, and some less");
        String[] touch = {"1, 0, 0, 0", "1, 0, 0, 2", "-1, 0, 0, 0", "-1, 0, 0, -2", "0, 1, 0, 0", "0, 1, 0, 3",
            "0, 0, 1, 0", "0, 0, 1, 4", "1, 1, 0, 0", "1, 1, 0, 5", "1, 0, -1, 2", "1, 0, -1, -4",
            "1, 1, 1, 0", "1, 1, 1, 9", "-1, -1, -1, 0", "-1, -1, -1, -9", "1, -1, 1, 6", "1, -1, 1, -3"};
        for (String plane : touch) {
            Run.on(2, 3, 4).due("joint(" + plane + ")", Run.ARGUMENT).due("blocks()", 1);
        }
        String[] beyond = {"1, 0, 0, -1", "1, 0, 0, 3", "0, 1, 0, -1", "0, 1, 0, 4", "0, 0, 1, -1", "0, 0, 1, 5",
            "1, 1, 1, -1", "1, 1, 1, 10"};
        for (String plane : beyond) {
            Run.on(2, 3, 4).due("joint(" + plane + ")", Run.ARGUMENT).due("blocks()", 1);
        }
        String[] cut = {"1, 0, 0, 1", "6, 0, 0, 1", "6, 0, 0, 11", "-6, 0, 0, -11", "0, 6, 0, 17", "0, 0, -6, -23",
            "1, 1, 0, 1", "1, 1, 0, 4", "1, 0, -1, 1", "1, 0, -1, -3", "1, 1, 1, 1", "1, 1, 1, 8",
            "-1, -1, -1, -1", "-1, -1, -1, -8", "1, -1, 1, 5", "1, -1, 1, -2", "1, -1, 0, 0", "3, -2, 0, 0"};
        for (String plane : cut) {
            Run.on(2, 3, 4).due("joint(" + plane + ")", 0).due("blocks()", 2);
        }
        Run.on(1, 1, 1).due("joint(1, 0, 0, 0)", Run.ARGUMENT).due("joint(1, 0, 0, 1)", Run.ARGUMENT).due("joint(2, 0, 0, 1)", 0);
    }

    private static void jointsDiffer() {
        Run.sentence("no two joints are the same plane");
        Run run = Run.on(4, 4, 4).first("joint(2, 0, 0, 3)", "joint(1, -1, 0, 0)", "joint(1, 2, 3, 6)");
        String[] same = {"2, 0, 0, 3", "4, 0, 0, 6", "6, 0, 0, 9", "-2, 0, 0, -3", "-4, 0, 0, -6",
            "1, -1, 0, 0", "-1, 1, 0, 0", "6, -6, 0, 0", "1, 2, 3, 6", "2, 4, 6, 12", "-1, -2, -3, -6", "-2, -4, -6, -12"};
        for (String plane : same) {
            run.due("joint(" + plane + ")", Run.ARGUMENT);
        }
        run.due("told(0)", 3);
        String[] other = {"4, 0, 0, 5", "2, 0, 0, 4", "1, 1, 0, 3", "1, -1, 0, 1", "1, 0, -1, 0", "0, 1, -1, 0",
            "2, 4, 6, 11", "2, 4, 5, 12", "2, 3, 6, 12", "3, 4, 6, 12", "1, 2, -3, 6", "0, 2, 0, 3", "0, 0, 2, 3"};
        for (String plane : other) {
            run.due("joint(" + plane + ")", 3).due("unjoint()", 3);
        }
        run.due("unjoint()", 2).due("joint(2, 4, 6, 12)", 2);
    }

    private static void aboveAndBelow() {
        Run.sentence("A point is ABOVE a joint if it has more than d, BELOW if less.");
        Run.on(2, 2, 2).first("joint(1, 0, 0, 1)").due("block(0, 3)", 0).due("block(1, 3)", 0);
        Run.on(2, 2, 2).first("joint(2, 0, 0, 1)").due("block(0, 3)", 0).due("block(1, 3)", 1);
        Run.on(2, 2, 2).first("joint(2, 0, 0, 3)").due("block(0, 3)", 1).due("block(1, 3)", 0);
        Run.on(2, 2, 2).first("joint(-2, 0, 0, -3)").due("block(0, 3)", 0).due("block(1, 3)", 1);
    }

    private static void faceNumbers() {
        Run.sentence("FACES are 0 to 5 the joints; 6 x = 0, 7 x = X, 8 y = 0, 9 y = Y, 10 z = 0, 11 z = Z.");
        String[] across = {"joint(1, 0, 0, 1)", "joint(0, 1, 0, 1)", "joint(0, 0, 1, 1)"};
        for (int i = 0; i < 3; i++) {
            int low = 1 << 6 + 2 * i;
            int high = 1 << 7 + 2 * i;
            Run.on(2, 2, 2).due("block(0, 1)", 0xFC0).first(across[i])
                    .due("block(0, 1)", 1 | 0xFC0 & ~high).due("block(1, 1)", 1 | 0xFC0 & ~low);
        }
        Run run = Run.on(8, 1, 1);
        for (int j = 0; j < 6; j++) {
            run.first("joint(1, 0, 0, " + (j + 1) + ")");
        }
        run.due("block(0, 1)", 1 | 1 << 6 | 0xF00).due("block(5, 1)", 1 << 4 | 1 << 5 | 0xF00);
        run.due("block(6, 1)", 1 << 5 | 1 << 7 | 0xF00);
    }

    private static void shutAtFirst() {
        Run.sentence("Box faces are shut at first, some may be OPEN.");
        for (int f = 6; f < 12; f++) {
            String out = OUTWARD[f - 6];
            Run.on(3, 3, 3).first("pull(" + out + ")", "direction(" + out + ")").due("mode(0)", 0).due("goes(0, 0)", false)
                    .due("open(" + f + ", false)", false).due("open(" + f + ", true)", true)
                    .due("mode(0)", 1).due("goes(0, 0)", true);
        }
    }

    private static void blocksArePartsOfTheInside() {
        Run.sentence("BLOCKS are the parts into which joints cut the box's inside");
        Run.on(4, 4, 4).due("blocks()", 1).due("find(0)", 0)
                .first("joint(1, 0, 0, 1)").due("blocks()", 2)
                .first("joint(1, 0, 0, 2)").due("blocks()", 3).due("find(2)", -1)
                .first("joint(0, 1, 0, 1)").due("blocks()", 6)
                .first("joint(1, 1, 0, 2)").due("blocks()", 8);
        // Joints that cut each other outside the box, or on its border alone, cut four parts to three.
        Run.on(4, 4, 4).first("joint(1, 1, 0, 4)", "joint(1, 2, 0, 9)").due("blocks()", 3);
        Run.on(4, 4, 4).first("joint(1, 1, 0, 4)", "joint(1, 2, 0, 8)").due("blocks()", 3);
        Run.on(4, 4, 4).first("joint(1, 1, 0, 4)", "joint(1, 2, 0, 7)").due("blocks()", 4);
        Run.on(4, 4, 4).first("joint(1, 1, 1, 1)", "joint(1, 1, -3, 1)").due("blocks()", 3);
        Run.on(2, 2, 2).first("joint(1, 0, 0, 1)", "joint(0, 1, 0, 1)", "joint(0, 0, 1, 1)").due("blocks()", 8)
                .first("joint(1, 1, 0, 2)", "joint(1, 0, 1, 2)", "joint(0, 1, 1, 2)").due("blocks()", 26);
    }

    private static void sidesAreBits() {
        Run.sentence("Its SIDES: bit j is 1 if it is above joint j.");
        Run.on(4, 4, 4).first("joint(-1, 0, 0, -1)", "joint(1, 0, 0, 3)")
                .due("block(0, 0)", 0).dueCorner(0, 0, "1 0 0 / 1")
                .due("block(1, 0)", 1).dueCorner(1, 0, "0 0 0 / 1")
                .due("block(2, 0)", 2).dueCorner(2, 0, "3 0 0 / 1");
        Run run = Run.on(8, 1, 1);
        for (int j = 0; j < 6; j++) {
            run.first("joint(1, 0, 0, " + (j + 1) + ")");
        }
        for (int k = 0; k < 7; k++) {
            run.due("block(" + k + ", 0)", (1 << k) - 1);
        }
    }

    private static void blockNumbers() {
        Run.sentence("Blocks have numbers by their sides, the least first, from 0 on.");
        // Along x the sides are 4, 4 + 8, 2 + 4 + 8, 1 + 2 + 4 + 8, and 1 + 2 + 8 at the end.
        Run.on(8, 1, 1).first("joint(1, 0, 0, 5)", "joint(1, 0, 0, 2)", "joint(-1, 0, 0, -7)", "joint(1, 0, 0, 1)")
                .due("blocks()", 5).due("block(-1, 0)", Run.BOUNDS).due("block(5, 0)", Run.BOUNDS)
                .due("block(0, 0)", 4).due("block(1, 0)", 11).due("block(2, 0)", 12).due("block(3, 0)", 14).due("block(4, 0)", 15)
                .dueCorner(0, 0, "0 0 0 / 1").dueCorner(1, 0, "7 0 0 / 1").dueCorner(4, 0, "5 0 0 / 1");
    }

    private static void faceInALineIsNone() {
        Run.sentence("A face IS OF a block if .. (not just a line ..)");
        Run.on(4, 4, 4).first("joint(1, -1, 0, 0)")
                .due("block(0, 1)", 1 | 1 << 6 | 1 << 9 | 3 << 10).due("block(1, 1)", 1 | 1 << 7 | 1 << 8 | 3 << 10);
        Run.on(4, 4, 4).first("joint(1, 0, 0, 2)", "joint(0, 1, 0, 2)", "joint(1, 1, 0, 4)")
                .due("find(7)", 5).due("block(5, 1)", 3 | 1 << 7 | 1 << 9 | 3 << 10).due("beside(5, 2)", -1)
                .due("find(0)", 0).due("block(0, 1)", 3 | 1 << 6 | 1 << 8 | 3 << 10).due("beside(0, 2)", -1)
                .due("beside(5, 0)", 4).due("beside(0, 0)", 1);
        // The joint that has a line alone in common bears each of the numbers 0 to 5.
        String[] planes = {"1, 0, 0, 2", "0, 1, 0, 2", "1, 1, 0, 4"};
        String[] before = {"0, 0, 1, 1", "0, 0, 1, 2", "0, 0, 1, 3"};
        for (int shift = 0; shift <= 3; shift++) {
            for (int turn = 0; turn < 3; turn++) {
                Run run = turned(Run.on(4, 4, 4), before, shift, planes, turn);
                int k = run.number("find(" + (7 << shift) + ")");
                int own = (7 & ~(1 << (2 + turn) % 3)) << shift;
                run.due("block(" + k + ", 1)", own | 1 << 7 | 1 << 9 | 1 << 10 | (shift == 0 ? 1 << 11 : 1));
                run.due("beside(" + k + ", " + (shift + (2 + turn) % 3) + ")", -1);
            }
        }
    }

    /** The first of some joints, and then others, of which the last one comes first if turned by one, and so on. */
    private static Run turned(Run run, String[] before, int shift, String[] planes, int turn) {
        for (int i = 0; i < shift; i++) {
            run.first("joint(" + before[i] + ")");
        }
        for (int i = 0; i < planes.length; i++) {
            run.first("joint(" + planes[Math.floorMod(i - turn, planes.length)] + ")");
        }
        return run;
    }

    private static void faceInAPointIsNone() {
        Run.sentence("A face IS OF a block if .. (not just .. a point ..)");
        Run.on(2, 2, 2).first("joint(1, 0, 0, 1)", "joint(0, 1, 0, 1)", "joint(0, 0, 1, 1)", "joint(1, 1, 1, 3)")
                .due("find(7)", -1).due("find(15)", 13).due("block(13, 1)", 7 | 1 << 7 | 1 << 9 | 1 << 11)
                .due("beside(13, 3)", -1).due("block(0, 1)", 7 | 1 << 6 | 1 << 8 | 1 << 10).due("beside(0, 3)", -1);
        // Above x = z and below y = z: x = 0 has the point 0, 0, 0 of it alone, y = 4 the point 4, 4, 4.
        Run.on(4, 4, 4).first("joint(1, 0, -1, 0)", "joint(0, 1, -1, 0)").due("block(1, 0)", 1)
                .due("block(1, 1)", 3 | 1 << 7 | 1 << 8);
        // The joint that has a point alone in common bears each of the numbers 0 to 5.
        String[] planes = {"1, 0, 0, 1", "0, 1, 0, 1", "0, 0, 1, 1", "1, 1, 1, 3"};
        String[] before = {"1, 1, -1, -1", "1, -1, 1, -1"};
        for (int shift = 0; shift <= 2; shift++) {
            for (int turn = 0; turn < 4; turn++) {
                Run run = turned(Run.on(2, 2, 2), before, shift, planes, turn);
                int k = run.number("find(" + ((16 << shift) - 1) + ")");
                int own = (15 & ~(1 << (3 + turn) % 4)) << shift;
                run.due("block(" + k + ", 1)", own | 1 << 7 | 1 << 9 | 1 << 11);
                run.due("beside(" + k + ", " + (shift + (3 + turn) % 4) + ")", -1);
            }
        }
    }

    private static void faceInNothingIsNone() {
        Run.sentence("A face IS OF a block if .. (not just .. nothing)");
        Run.on(4, 4, 4).first("joint(1, 0, 0, 1)", "joint(1, 0, 0, 2)")
                .due("block(0, 1)", 1 | 1 << 6 | 0xF00).due("beside(0, 1)", -1)
                .due("block(1, 1)", 3 | 0xF00).due("block(2, 1)", 2 | 1 << 7 | 0xF00).due("beside(2, 0)", -1);
    }

    private static void besideHasOtherSidesThere() {
        Run.sentence("BESIDE it, at a joint that is a face of it, is the block that has other sides there and else the same.");
        Run.on(4, 4, 4).first("joint(1, 0, 0, 2)", "joint(0, 1, 0, 2)")
                .due("beside(0, 0)", 1).due("beside(0, 1)", 2).due("beside(1, 0)", 0).due("beside(1, 1)", 3)
                .due("beside(2, 0)", 3).due("beside(2, 1)", 0).due("beside(3, 0)", 2).due("beside(3, 1)", 1);
        Run.on(4, 4, 4).first("joint(1, 0, 0, 2)", "joint(1, 1, 1, 11)").due("blocks()", 3)
                .due("beside(1, 1)", 2).due("beside(2, 1)", 1).due("beside(2, 0)", -1).due("beside(0, 1)", -1);
    }

    private static void cornersAreWhereThreeMeet() {
        Run.sentence("Its CORNERS are the points of its border at which three of its faces meet (in one point)");
        // Four planes meet at 4, 4, 4: one corner.
        Run.on(4, 4, 4).first("joint(1, 0, -1, 0)", "joint(0, 1, -1, 0)")
                .dueCorners(3, "0 0 0 / 1", "0 4 0 / 1", "4 0 0 / 1", "4 4 0 / 1", "4 4 4 / 1");
        // Three joints meet in a line: its ends alone are corners.
        Run.on(4, 4, 4).first("joint(1, 0, 0, 2)", "joint(0, 1, 0, 2)", "joint(1, 1, 0, 4)")
                .dueCorners(5, "2 2 0 / 1", "2 2 4 / 1", "2 4 0 / 1", "2 4 4 / 1", "4 2 0 / 1", "4 2 4 / 1", "4 4 0 / 1", "4 4 4 / 1");
        // x = 0, y = 0 and the joint meet at z = 11, outside.
        Run.on(4, 4, 4).first("joint(1, 1, 1, 11)").due("told(3)", 11).due("block(0, 2)", 10)
                .dueCorners(1, "3 4 4 / 1", "4 3 4 / 1", "4 4 3 / 1", "4 4 4 / 1");
    }

    private static void cornerOrder() {
        Run.sentence("CORNERS .. in the order of x, then y, then z");
        Run.on(1, 1, 1).first("joint(6, 4, 3, 12)").dueCorners(1, "5 6 6 / 6", "4 3 4 / 4", "3 3 2 / 3", "1 1 1 / 1");
        Run.on(1, 1, 1).first("joint(-6, -4, -3, -12)").dueCorners(0, "5 6 6 / 6", "4 3 4 / 4", "3 3 2 / 3", "1 1 1 / 1");
        // 2/3 is less than 3/4, in each of the three.
        Run.on(8, 1, 1).first("joint(6, 0, 0, 4)", "joint(4, 0, 0, 3)")
                .dueCorners(1, "2 0 0 / 3", "2 0 3 / 3", "2 3 0 / 3", "2 3 3 / 3", "3 0 0 / 4", "3 0 4 / 4", "3 4 0 / 4", "3 4 4 / 4");
        Run.on(1, 8, 1).first("joint(0, 6, 0, 4)", "joint(0, 4, 0, 3)")
                .dueCorners(1, "0 2 0 / 3", "0 2 3 / 3", "0 3 0 / 4", "0 3 4 / 4", "3 2 0 / 3", "3 2 3 / 3", "4 3 0 / 4", "4 3 4 / 4");
        Run.on(1, 1, 8).first("joint(0, 0, 6, 4)", "joint(0, 0, 4, 3)")
                .dueCorners(1, "0 0 2 / 3", "0 0 3 / 4", "0 3 2 / 3", "0 4 3 / 4", "3 0 2 / 3", "4 0 3 / 4", "3 3 2 / 3", "4 4 3 / 4");
    }

    private static void inwardOfBoxFaces() {
        Run.sentence("INWARD .. (1, 0, 0) at x = 0, (-1, 0, 0) at x = X, and so on.");
        for (int f = 6; f < 12; f++) {
            String outward = OUTWARD[f - 6];
            String inward = OUTWARD[(f ^ 1) - 6];
            String across = OUTWARD[(f - 4) % 6];
            Run run = allOpen(Run.on(3, 4, 5)).first("open(" + f + ", false)");
            run.first("direction(" + inward + ")", "direction(" + outward + ")", "direction(" + across + ")");
            run.due("goes(0, 0)", true).due("goes(0, 1)", false).due("goes(0, 2)", true);
        }
    }

    private static void inwardOfJoints() {
        Run.sentence("INWARD of a block's face is what leads from it into the block: (a, b, c), or (-a, -b, -c) below");
        allOpen(Run.on(4, 4, 4)).first("joint(1, 2, 3, 6)", "direction(1, 2, 3)", "direction(-1, -2, -3)", "direction(3, 0, -1)")
                .due("goes(1, 0)", true).due("goes(1, 1)", false).due("goes(1, 2)", true)
                .due("goes(0, 0)", false).due("goes(0, 1)", true).due("goes(0, 2)", true);
        allOpen(Run.on(4, 4, 4)).first("joint(-1, -2, -3, -6)", "direction(1, 2, 3)", "direction(-1, -2, -3)")
                .due("goes(1, 0)", false).due("goes(1, 1)", true).due("goes(0, 0)", true).due("goes(0, 1)", false);
    }

    private static void freeBoxFace() {
        Run.sentence("A face of a block is FREE if it is a box face that is open");
        Run.on(4, 4, 4).first("joint(0, 0, 1, 2)", "direction(0, 0, 1)", "direction(0, 0, -1)")
                .due("goes(1, 0)", false).first("open(10, true)").due("goes(1, 0)", false).due("goes(0, 1)", true)
                .first("open(11, true)").due("goes(1, 0)", true).due("goes(0, 0)", false).due("goes(1, 1)", false)
                .first("open(11, false)").due("goes(1, 0)", false);
    }

    private static void freeJoint() {
        Run.sentence("FREE if it is .. a joint and the block beside it there is taken; else it HOLDS the block.");
        Run.on(4, 4, 4).first("joint(1, 0, 0, 2)", "joint(0, 0, 1, 2)", "open(11, true)", "direction(0, 0, 1)", "direction(1, 0, 0)")
                .due("goes(1, 0)", false).due("goes(2, 1)", false).due("take(3)", 0)
                .due("goes(1, 0)", true).due("goes(2, 1)", true).due("goes(0, 0)", false).due("goes(0, 1)", false)
                .due("goes(1, 1)", false).due("back()", 1).due("goes(1, 0)", false).due("goes(2, 1)", false);
    }

    private static void canGoIsZeroOrMore() {
        Run.sentence("CAN GO along (u, v, w) .. if for each face that holds it u, v, w times INWARD .. is 0 or more");
        Run run = allOpen(Run.on(4, 4, 4)).first("joint(2, -3, 0, 0)");
        run.first("direction(3, 2, 0)", "direction(2, 1, 0)", "direction(1, 1, 0)", "direction(9, 6, -9)", "direction(9, 9, 9)");
        run.due("goes(1, 0)", true).due("goes(1, 1)", true).due("goes(1, 2)", false).due("goes(1, 3)", true).due("goes(1, 4)", false);
        run.due("goes(0, 0)", true).due("goes(0, 1)", false).due("goes(0, 2)", true).due("goes(0, 3)", true).due("goes(0, 4)", true);
        // One face that is against it is enough, be it the first or the last.
        run.first("open(11, false)").due("goes(0, 4)", false).due("goes(0, 3)", true);
        run.first("direction(0, 0, 1)").due("goes(0, 5)", false).due("goes(1, 5)", false);
        allOpen(Run.on(1, 1, 1)).first("direction(-9, -9, -9)", "direction(0, 0, 1)").due("goes(0, 0)", true).due("goes(0, 1)", true);
    }

    private static void canGoIsNotForTaken() {
        Run.sentence("A block that is not taken CAN GO");
        allOpen(Run.on(2, 2, 2)).first("direction(1, 0, 0)").due("goes(0, 0)", true).due("take(0)", 0)
                .due("goes(0, 0)", false).due("take(0)", -1).due("order()", 0).due("mode(0)", -1).due("told(2)", 1);
    }

    private static void directionNumbers() {
        Run.sentence("DIRECTIONS 0 to 7 are told ones.");
        Run run = Run.on(2, 2, 2).first("open(11, true)").due("goes(0, 0)", Run.BOUNDS).due("take(0)", -1).due("order()", 0);
        for (int i = 0; i < 7; i++) {
            run.due("direction(1, " + i + ", 0)", i).due("goes(0, " + i + ")", false).due("goes(0, " + (i + 1) + ")", Run.BOUNDS);
        }
        run.due("take(0)", -1).due("direction(0, 0, 1)", 7).due("goes(0, 7)", true).due("goes(0, 8)", Run.BOUNDS).due("take(0)", 7);
    }

    private static void orderAgainAndAgain() {
        Run.sentence("ORDER: again and again the least block that can go along a direction is taken, by the least such direction.");
        Run.on(4, 4, 4).first("joint(1, 0, 0, 2)", "joint(0, 0, 1, 2)", "open(11, true)", "direction(0, 0, 1)")
                .due("order()", 4).dueTaken(2, 0, 0, 0, 3, 0, 1, 0);
        Run.on(4, 4, 4).first("joint(1, 0, 0, 2)", "joint(0, 0, 1, 2)", "open(11, true)", "open(6, true)")
                .first("direction(0, 0, 1)", "direction(-1, 0, 1)", "direction(-1, 0, 0)")
                .due("order()", 4).dueTaken(0, 2, 1, 2, 2, 0, 3, 0);
    }

    private static void firstPull() {
        Run.sentence("PULLED along g (0, 0, -1 at first)");
        Run.on(4, 4, 4).due("mode(0)", 0).first("open(11, true)", "open(6, true)", "open(9, true)").due("mode(0)", 0)
                .first("open(10, true)").due("mode(0)", 1);
        Run.on(4, 4, 4).first("joint(1, 0, 1, 4)", "open(7, true)").due("mode(1)", 10).due("mode(0)", 0);
    }

    private static void falls() {
        Run.sentence("1 it falls, if it can go along g");
        Run.on(4, 4, 4).first("joint(1, 0, 0, 2)", "open(10, true)").due("mode(0)", 1).due("mode(1)", 1)
                .first("pull(1, 0, -9)").due("mode(0)", 10).due("mode(1)", 10 + 7)
                .first("pull(0, 0, 1)").due("mode(0)", 0).first("open(11, true)").due("mode(0)", 1);
        Run.on(4, 4, 4).first("joint(1, 0, 1, 2)", "open(10, true)").due("mode(0)", 1).due("mode(1)", 0);
        allOpen(Run.on(4, 4, 4)).first("pull(-9, 9, -9)").due("mode(0)", 1);
    }

    private static void slidesOnOne() {
        Run.sentence("10 + f it slides on face f .. that holds it, for which g times INWARD is below 0 and the block can go along SLIDE f");
        String[] pulls = {"-1, -1, 0", "1, -1, 0", "-1, -1, 0", "-1, 1, 0", "-1, 0, -1", "-1, 0, 1"};
        for (int f = 6; f < 12; f++) {
            int way = f < 8 ? 8 : 6;
            Run.on(4, 4, 4).first("pull(" + pulls[f - 6] + ")").due("mode(0)", 0)
                    .first("open(" + way + ", true)").due("mode(0)", 10 + f).first("open(" + f + ", true)").due("mode(0)", 1);
        }
        Run run = Run.on(4, 4, 4).first("open(8, true)", "pull(-1, -1, -1)");
        for (int j = 0; j < 6; j++) {
            run.first("joint(1, 0, 1, " + (j + 1) + ")");
        }
        for (int k = 1; k <= 6; k++) {
            run.due("mode(" + k + ")", 10 + k - 1);
        }
        run.due("mode(0)", 100 + 12 * 6 + 10).first("pull(0, 9, 0)").due("mode(3)", 0);
        // What slides on the slope comes to a stop at x = 4, if that is shut.
        Run.on(4, 4, 4).first("joint(1, 0, 1, 4)").due("mode(1)", 0).first("open(7, true)").due("mode(1)", 10);
    }

    private static void slidesOnOneOnlyWhereItIsPressed() {
        Run.sentence("for which g times INWARD is below 0");
        // The slide on x = 0 would lead out at y = 0 too, but it is x = 4 that the block is pressed on.
        Run.on(4, 4, 4).first("open(8, true)", "pull(1, -1, 0)").due("mode(0)", 10 + 7);
        Run.on(4, 4, 4).first("open(8, true)", "joint(1, 0, 1, 2)", "pull(1, -1, 1)").due("mode(1)", 100 + 12 * 7 + 11);
    }

    private static void slidesOnOneNotByNothing() {
        Run.sentence("CAN GO along (u, v, w), not 0, 0, 0");
        allOpen(Run.on(4, 4, 4)).first("open(10, false)").due("mode(0)", 0).first("pull(0, 1, -1)").due("mode(0)", 20);
        allOpen(Run.on(4, 4, 4)).first("joint(1, 2, 3, 6)", "pull(-1, -2, -3)").due("mode(1)", 0).due("mode(0)", 1)
                .first("pull(-1, -2, -4)").due("mode(1)", 10).first("pull(1, 2, 3)").due("mode(0)", 0);
    }

    private static void slidesOnTwo() {
        Run.sentence("100 + 12 f + h it slides along faces f and h");
        Run.on(4, 4, 4).first("joint(1, 0, 1, 4)", "joint(-1, 0, 1, 0)", "pull(0, -1, -1)").due("block(3, 0)", 3)
                .due("mode(3)", 0).first("open(8, true)").due("mode(3)", 101);
        // Four joints that cut off corners below leave the last two to lie on.
        Run.on(8, 8, 8).first("joint(1, 1, 1, 1)", "joint(-1, 1, 1, -7)", "joint(1, -1, 1, -7)", "joint(-1, -1, 1, -15)")
                .first("joint(1, 0, 1, 8)", "joint(-1, 0, 1, 0)", "pull(0, -1, -1)", "open(8, true)")
                .due("blocks()", 12).due("block(11, 0)", 63).due("mode(11)", 100 + 12 * 4 + 5);
        String[] pulls = {"-1, -1, -1", "-1, -1, 1", "1, -1, -1", "1, -1, 1"};
        int[] pairs = {12 * 6 + 10, 12 * 6 + 11, 12 * 7 + 10, 12 * 7 + 11};
        for (int i = 0; i < 4; i++) {
            Run.on(4, 4, 4).first("pull(" + pulls[i] + ")").due("mode(0)", 0).first("open(8, true)").due("mode(0)", 100 + pairs[i]);
        }
        Run.on(4, 4, 4).first("pull(-1, 1, 1)", "open(6, true)").due("mode(0)", 100 + 12 * 9 + 11);
        Run.on(4, 4, 4).first("pull(-1, -1, -1)", "open(10, true)").due("mode(0)", 100 + 12 * 6 + 8);
    }

    private static void slidesOnTwoLeastFirst() {
        Run.sentence("f below h, the least f, then the least h, that hold it");
        // 0 and 7, 0 and 10, 6 and 10 would all do.
        Run.on(4, 4, 4).first("joint(1, 0, 1, 2)", "open(8, true)", "pull(-1, -1, -2)").due("mode(1)", 100 + 7)
                .first("open(7, true)").due("mode(1)", 100 + 10);
    }

    private static void slidesOnTwoTurnedRound() {
        Run.sentence("LINE, the cross product of both INWARDS, turned round if g times it is below 0");
        Run.on(4, 4, 4).first("open(8, true)", "pull(-1, -1, -1)").due("mode(0)", 100 + 12 * 6 + 10);
        Run.on(4, 4, 4).first("open(9, true)", "pull(-1, 1, -1)").due("mode(0)", 100 + 12 * 6 + 10);
        Run.on(4, 4, 4).first("open(8, true)", "pull(-1, 1, -1)").due("mode(0)", 0);
        Run.on(4, 4, 4).first("open(9, true)", "pull(-1, -1, -1)").due("mode(0)", 0);
    }

    private static void slidesOnTwoNeedsTheLine() {
        Run.sentence("LINE .. has more than 0 for g times it; it can go along it");
        Run.on(4, 4, 4).first("open(8, true)", "open(9, true)", "pull(-1, 0, -1)").due("mode(0)", 0)
                .first("pull(-9, 1, -9)").due("mode(0)", 182).first("open(9, false)").due("mode(0)", 0);
        // z = 0 and z = 4 stand on one line: their LINE is 0, 0, 0.
        allOpen(Run.on(4, 4, 4)).first("open(10, false)", "open(11, false)").due("mode(0)", 0);
    }

    private static void slidesOnTwoNeedsBothSlides() {
        Run.sentence("SLIDE f times INWARD of h is below 0, and SLIDE h times INWARD of f");
        // Faces 8 and 10 would do, but for SLIDE 8 in the first run, SLIDE 10 in the second.
        Run.on(4, 4, 4).first("open(6, true)", "pull(-1, -1, 1)").due("mode(0)", 100 + 12 * 8 + 11);
        Run.on(4, 4, 4).first("open(6, true)", "pull(-1, 1, -1)").due("mode(0)", 100 + 12 * 9 + 10);
    }

    private static void stays() {
        Run.sentence("0 it stays (also if g is 0, 0, 0)");
        allOpen(Run.on(4, 4, 4)).first("pull(0, 0, 0)").due("mode(0)", 0).first("pull(0, 0, 1)").due("mode(0)", 1);
        Run run = Run.on(4, 4, 4).first("joint(1, 1, 1, 6)");
        String[] pulls = {"0, 0, 0", "0, 0, -9", "9, 9, 9", "-9, 9, 0", "1, 0, 0"};
        for (String pull : pulls) {
            run.first("pull(" + pull + ")").due("mode(0)", 0).due("mode(1)", 0);
        }
    }

    private static Run twoTaken() {
        return Run.on(4, 4, 4).first("joint(0, 0, 1, 1)", "joint(0, 0, 1, 2)", "open(11, true)", "direction(0, 0, 1)")
                .due("take(2)", 0).due("take(1)", 0).due("goes(0, 0)", true).due("told(2)", 2);
    }

    private static void noneTaken(Run run) {
        int blocks = run.number("blocks()");
        run.due("told(2)", 0).due("taken(0, 0)", Run.BOUNDS).due("goes(0, 0)", blocks == 1).due("mode(0)", 0);
        for (int k = 0; k < blocks; k++) {
            run.due("block(" + k + ", 4)", 0);
        }
        run.due("back()", 0).due("order()", blocks).due("back()", blocks);
    }

    private static void jointMoreTakesBack() {
        Run.sentence("A joint more .. takes back all that was taken.");
        noneTaken(twoTaken().due("joint(0, 0, 1, 3)", 2));
        twoTaken().due("joint(0, 0, 2, 4)", Run.ARGUMENT).due("joint(0, 0, 1, 4)", Run.ARGUMENT).dueTaken(2, 0, 1, 0);
    }

    private static void jointFewerTakesBack() {
        Run.sentence("A joint .. fewer, takes back all that was taken.");
        noneTaken(twoTaken().due("unjoint()", 1));
        noneTaken(twoTaken().due("unjoint()", 1).due("take(1)", 0).due("unjoint()", 0));
        // Without joints none goes, so nothing is taken back.
        Run.on(4, 4, 4).first("open(11, true)", "direction(0, 0, 1)").due("take(0)", 0).due("unjoint()", -1).dueTaken(0, 0);
    }

    private static Run allOpen(Run run) {
        for (int f = 6; f < 12; f++) {
            run.first("open(" + f + ", true)");
        }
        return run;
    }
}
