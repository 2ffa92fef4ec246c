/** Each promise of the document: ordinary inputs, the edges it names, wrong inputs. */
public final class PromisesTest {
    private static final String BOUNDS = "IndexOutOfBoundsException";
    private static final String ARGUMENT = "IllegalArgumentException";
    private static final String STATE = "IllegalStateException";
    private static final int[] FAR = {Integer.MIN_VALUE, -1, Integer.MAX_VALUE};

    private static int wrong = 0;
    private static int promise = 0;

    private interface Call {
        Object make();
    }

    private static void due(String call, Call got, Object want) {
        String answer;
        try {
            answer = String.valueOf(got.make());
        } catch (RuntimeException e) {
            answer = e.getClass().getSimpleName();
        }
        if (!answer.equals(String.valueOf(want))) {
            wrong++;
            System.out.println("promise " + promise + ": " + call + " answered " + answer + ", due is " + want);
        }
    }

    public static void main(String[] args) {
        promise = 1;
        newObject();
        promise = 2;
        joint();
        jointEdges();
        promise = 3;
        unjoint();
        promise = 4;
        open();
        promise = 5;
        direction();
        promise = 6;
        pull();
        promise = 7;
        blocks();
        promise = 8;
        block();
        promise = 9;
        corner();
        cornersAsFractions();
        promise = 10;
        find();
        promise = 11;
        beside();
        promise = 12;
        goes();
        promise = 13;
        take();
        promise = 14;
        order();
        promise = 15;
        taken();
        promise = 16;
        back();
        promise = 17;
        modeOfWholeBox();
        modeOfWedges();
        modeOnSlopes();
        modeWrong();
        promise = 18;
        told();
        System.out.println(wrong == 0 ? "all promises hold" : wrong + " answers are not as due");
        if (wrong != 0) {
            System.exit(1);
        }
    }

    private static String cornerText(WedgePlanes rock, int k, int i) {
        return rock.corner(k, i, 0) + " " + rock.corner(k, i, 1) + " " + rock.corner(k, i, 2) + " / " + rock.corner(k, i, 3);
    }

    private static String corners(WedgePlanes rock, int k) {
        StringBuilder text = new StringBuilder();
        for (int i = 0; i < rock.block(k, 2); i++) {
            text.append(i == 0 ? "" : ", ").append(cornerText(rock, k, i));
        }
        return text.toString();
    }

    private static Object pulled(WedgePlanes rock, int u, int v, int w) {
        rock.pull(u, v, w);
        return "done";
    }

    /** All that an object answers, without changing it. */
    private static String all(WedgePlanes rock) {
        StringBuilder text = new StringBuilder();
        for (int what = 0; what < 4; what++) {
            text.append(rock.told(what)).append(' ');
        }
        for (int k = 0; k < rock.blocks(); k++) {
            for (int what = 0; what < 5; what++) {
                text.append(rock.block(k, what)).append(' ');
            }
            text.append(corners(rock, k)).append(' ').append(rock.mode(k)).append(' ');
            for (int j = 0; j < rock.told(0); j++) {
                text.append(rock.beside(k, j)).append(' ');
            }
            for (int i = 0; i < rock.told(1); i++) {
                text.append(rock.goes(k, i)).append(' ');
            }
        }
        for (int i = 0; i < rock.told(2); i++) {
            text.append(rock.taken(i, 0)).append(' ').append(rock.taken(i, 1)).append(' ');
        }
        return text.toString();
    }

    private static void newObject() {
        due("7th corner of 3 2 1", () -> cornerText(new WedgePlanes(3, 2, 1), 0, 7), "3 2 1 / 1");
        due("7th corner of 1 8 1", () -> cornerText(new WedgePlanes(1, 8, 1), 0, 7), "1 8 1 / 1");
        due("7th corner of 0 9 -1", () -> cornerText(new WedgePlanes(0, 9, -1), 0, 7), "1 8 1 / 1");
        due("7th corner of the widest ints",
                () -> cornerText(new WedgePlanes(Integer.MAX_VALUE, Integer.MIN_VALUE, Integer.MAX_VALUE), 0, 7), "8 1 8 / 1");
        WedgePlanes rock = new WedgePlanes(4, 5, 6);
        due("blocks", rock::blocks, 1);
        due("joints", () -> rock.told(0), 0);
        due("directions", () -> rock.told(1), 0);
        due("taken", () -> rock.told(2), 0);
        due("corners", () -> rock.told(3), 8);
        for (int f = 6; f < 12; f++) {
            int face = f;
            due("open " + f + " false", () -> rock.open(face, false), false);
        }
        rock.open(10, true);
        due("mode by the first pull", () -> rock.mode(0), 1);
        due("two objects share nothing", () -> new WedgePlanes(4, 5, 6).mode(0), 0);
        due("NONE", () -> WedgePlanes.NONE, -1);
    }

    private static void joint() {
        WedgePlanes rock = new WedgePlanes(3, 2, 1);
        due("all 0", () -> rock.joint(0, 0, 0, 0), ARGUMENT);
        due("all 0, level 1", () -> rock.joint(0, 0, 0, 1), ARGUMENT);
        due("x = 0", () -> rock.joint(1, 0, 0, 0), ARGUMENT);
        due("x = 3", () -> rock.joint(1, 0, 0, 3), ARGUMENT);
        due("-x = -3", () -> rock.joint(-1, 0, 0, -3), ARGUMENT);
        due("at one corner", () -> rock.joint(1, 1, 1, 6), ARGUMENT);
        due("outside", () -> rock.joint(1, 1, 1, 7), ARGUMENT);
        for (int part : new int[] {-7, 7, Integer.MIN_VALUE, Integer.MAX_VALUE}) {
            due("a " + part, () -> rock.joint(part, 0, 0, 5), ARGUMENT);
            due("b " + part, () -> rock.joint(1, part, 0, 1), ARGUMENT);
            due("c " + part, () -> rock.joint(1, 0, part, 1), ARGUMENT);
        }
        due("6 x = 9", () -> rock.joint(6, 0, 0, 9), 0);
        due("twice the same", () -> rock.joint(6, 0, 0, 9), ARGUMENT);
        due("the same, smaller", () -> rock.joint(2, 0, 0, 3), ARGUMENT);
        due("the same, turned round", () -> rock.joint(-4, 0, 0, -6), ARGUMENT);
        due("parallel", () -> rock.joint(4, 0, 0, 5), 1);
        due("-6 y = -7", () -> rock.joint(0, -6, 0, -7), 2);
        due("-6 z = -5", () -> rock.joint(0, 0, -6, -5), 3);
        due("through one edge", () -> rock.joint(1, 0, -3, 0), 4);
        due("through the origin", () -> rock.joint(1, -1, 0, 0), 5);
        due("the seventh", () -> rock.joint(1, 1, 1, 2), STATE);
        due("the seventh, no such plane", () -> rock.joint(1, 1, 1, 9), ARGUMENT);
        due("the seventh, the same", () -> rock.joint(2, -2, 0, 0), ARGUMENT);
        due("joints", () -> rock.told(0), 6);
    }

    private static void jointEdges() {
        WedgePlanes big = new WedgePlanes(8, 8, 8);
        due("d 101", () -> big.joint(6, 6, 6, 101), ARGUMENT);
        due("d -101", () -> big.joint(-6, -6, -6, -101), ARGUMENT);
        due("d 100", () -> big.joint(6, 6, 6, 100), 0);
        due("d -100, the same plane", () -> big.joint(-6, -6, -6, -100), ARGUMENT);
        due("d -100", () -> big.joint(-6, -6, -5, -100), 1);
        due("d least int", () -> big.joint(1, 1, 1, Integer.MIN_VALUE), ARGUMENT);
        due("sum that runs over", () -> big.joint(1 << 29, 0, 0, 1), ARGUMENT);
        WedgePlanes rock = new WedgePlanes(4, 4, 4);
        rock.open(10, true);
        rock.direction(0, 0, -1);
        rock.take(0);
        due("a joint refused takes nothing back", () -> rock.joint(1, 0, 0, 4), ARGUMENT);
        due("taken still", () -> rock.told(2), 1);
        rock.joint(1, 0, 0, 1);
        due("a joint more takes all back", () -> rock.told(2), 0);
        due("block is not taken now", () -> rock.block(0, 4) + rock.block(1, 4), 0);
        due("planes of the same lean, other level", () -> rock.joint(2, 0, 0, 3), 1);
        due("planes of the same level, other lean", () -> rock.joint(2, 1, 0, 3), 2);
        due("y = 1", () -> rock.joint(0, 1, 0, 1), 3);
        due("y = 2", () -> rock.joint(0, 1, 0, 2), 4);
        due("y = 2 doubled", () -> rock.joint(0, -2, 0, -4), ARGUMENT);
        rock.unjoint();
        rock.unjoint();
        due("z = 1", () -> rock.joint(0, 0, 1, 1), 3);
        due("z = 2", () -> rock.joint(0, 0, 1, 2), 4);
        due("z = 1 doubled", () -> rock.joint(0, 0, 2, 2), ARGUMENT);
    }

    private static void unjoint() {
        WedgePlanes rock = new WedgePlanes(4, 4, 4);
        due("of none", rock::unjoint, -1);
        rock.open(10, true);
        rock.direction(0, 0, -1);
        rock.take(0);
        due("of none, again", rock::unjoint, -1);
        due("nothing goes, so nothing is taken back", () -> rock.told(2), 1);
        String whole = all(rock);
        rock.joint(1, 0, 0, 2);
        rock.take(0);
        String one = all(rock);
        rock.joint(2, 1, -3, 3);
        rock.joint(1, 1, 1, 5);
        rock.order();
        due("blocks are taken", () -> rock.told(2) > 0, true);
        due("of three", rock::unjoint, 2);
        due("takes all back", () -> rock.told(2), 0);
        due("of two", rock::unjoint, 1);
        rock.take(0);
        due("all is as before", () -> all(rock), one);
        due("a plane that went can come again", () -> rock.joint(2, 1, -3, 3), 1);
        rock.unjoint();
        due("of one", rock::unjoint, 0);
        rock.take(0);
        due("all is as at first", () -> all(rock), whole);
        due("directions stay", () -> rock.told(1), 1);
    }

    private static void open() {
        WedgePlanes rock = new WedgePlanes(2, 2, 2);
        for (int face : new int[] {Integer.MIN_VALUE, -1, 0, 5, 12, Integer.MAX_VALUE}) {
            due("face " + face, () -> rock.open(face, true), BOUNDS);
            due("face " + face + ", shut", () -> rock.open(face, false), BOUNDS);
        }
        int[][] outward = {{-1, 0, 0}, {1, 0, 0}, {0, -1, 0}, {0, 1, 0}, {0, 0, -1}, {0, 0, 1}};
        for (int f = 6; f < 12; f++) {
            int face = f;
            int[] out = outward[f - 6];
            rock.pull(out[0], out[1], out[2]);
            due("shut " + f, () -> rock.mode(0), 0);
            due("open " + f, () -> rock.open(face, true), true);
            due("open again " + f, () -> rock.open(face, true), false);
            due("falls through " + f, () -> rock.mode(0), 1);
            due("shut " + f, () -> rock.open(face, false), true);
            due("shut again " + f, () -> rock.open(face, false), false);
            due("stays behind " + f, () -> rock.mode(0), 0);
        }
        WedgePlanes joined = new WedgePlanes(2, 2, 2);
        joined.joint(0, 0, 1, 1);
        due("a joint is no box face", () -> joined.open(0, true), BOUNDS);
        joined.open(10, true);
        joined.direction(0, 0, -1);
        joined.order();
        joined.open(10, false);
        due("what is taken stays taken", () -> joined.told(2), 2);
    }

    private static void direction() {
        WedgePlanes rock = new WedgePlanes(2, 2, 2);
        due("all 0", () -> rock.direction(0, 0, 0), ARGUMENT);
        for (int part : new int[] {-10, 10, Integer.MIN_VALUE, Integer.MAX_VALUE}) {
            due("u " + part, () -> rock.direction(part, 0, 1), ARGUMENT);
            due("v " + part, () -> rock.direction(0, part, 1), ARGUMENT);
            due("w " + part, () -> rock.direction(0, 1, part), ARGUMENT);
        }
        due("first", () -> rock.direction(9, 9, 9), 0);
        due("second", () -> rock.direction(-9, -9, -9), 1);
        due("the same once more", () -> rock.direction(9, 9, 9), 2);
        due("u alone", () -> rock.direction(1, 0, 0), 3);
        due("v alone", () -> rock.direction(0, 1, 0), 4);
        due("w alone", () -> rock.direction(0, 0, 1), 5);
        due("seventh", () -> rock.direction(-1, 0, 0), 6);
        due("eighth", () -> rock.direction(0, -1, 0), 7);
        due("ninth", () -> rock.direction(0, 0, -1), STATE);
        due("ninth, all 0", () -> rock.direction(0, 0, 0), ARGUMENT);
        due("ninth, too far", () -> rock.direction(10, 0, 0), ARGUMENT);
        due("directions", () -> rock.told(1), 8);
        rock.joint(1, 0, 0, 1);
        rock.unjoint();
        due("joints do not change them", () -> rock.told(1), 8);
    }

    private static void pull() {
        WedgePlanes rock = new WedgePlanes(2, 2, 2);
        rock.open(10, true);
        for (int part : new int[] {-10, 10, Integer.MIN_VALUE, Integer.MAX_VALUE}) {
            due("u " + part, () -> pulled(rock, part, 0, 1), ARGUMENT);
            due("v " + part, () -> pulled(rock, 0, part, 1), ARGUMENT);
            due("w " + part, () -> pulled(rock, 0, 0, part), ARGUMENT);
            due("the pull is as before", () -> rock.mode(0), 1);
        }
        due("0 0 0", () -> pulled(rock, 0, 0, 0), "done");
        due("stays by it", () -> rock.mode(0), 0);
        due("9 -9 9", () -> pulled(rock, 9, -9, 9), "done");
        due("-9 9 -9", () -> pulled(rock, -9, 9, -9), "done");
        due("slides along two", () -> rock.mode(0), 100 + 12 * 6 + 9);
    }

    private static void blocks() {
        WedgePlanes rock = new WedgePlanes(8, 8, 8);
        due("no joint", rock::blocks, 1);
        rock.joint(1, 0, 0, 4);
        due("one", rock::blocks, 2);
        rock.joint(1, 0, 0, 5);
        due("two that are parallel", rock::blocks, 3);
        rock.joint(0, 1, 0, 4);
        due("one across", rock::blocks, 6);
        rock.joint(1, 1, 0, 8);
        due("one through a line of two", rock::blocks, 9);
        rock.joint(0, 0, 1, 4);
        due("one across all", rock::blocks, 18);
        rock.joint(1, 1, 1, 23);
        due("one that cuts off a corner", rock::blocks, 19);
        WedgePlanes most = new WedgePlanes(7, 6, 5);
        int[][] planes = {{3, -2, 1, 4}, {1, 4, -2, 7}, {-1, 1, 5, 9}, {2, 2, 3, 14}, {5, -6, 1, -2}, {1, 1, -4, -3}};
        int[] counts = {2, 4, 8, 15, 26, 42};
        for (int j = 0; j < 6; j++) {
            most.joint(planes[j][0], planes[j][1], planes[j][2], planes[j][3]);
            due("so many by " + (j + 1), most::blocks, counts[j]);
        }
        WedgePlanes star = new WedgePlanes(2, 2, 2);
        int[][] through = {{1, 0, 0, 1}, {0, 1, 0, 1}, {0, 0, 1, 1}, {1, 1, 0, 2}, {1, 0, 1, 2}, {0, 1, 1, 2}};
        for (int[] p : through) {
            star.joint(p[0], p[1], p[2], p[3]);
        }
        due("six through one point", star::blocks, 26);
    }

    private static void block() {
        WedgePlanes rock = new WedgePlanes(3, 2, 1);
        due("faces of the box", () -> rock.block(0, 1), 0xFC0);
        due("corners of the box", () -> rock.block(0, 2), 8);
        due("no whole point inside", () -> rock.block(0, 3), 0);
        due("whole points inside", () -> new WedgePlanes(8, 8, 8).block(0, 3), 343);
        due("whole points inside 4 3 2", () -> new WedgePlanes(4, 3, 2).block(0, 3), 6);
        rock.joint(1, 1, 1, 5);
        due("sides below", () -> rock.block(0, 0), 0);
        due("faces below", () -> rock.block(0, 1), 0xFC1);
        due("corners below", () -> rock.block(0, 2), 9);
        due("sides above", () -> rock.block(1, 0), 1);
        due("faces above", () -> rock.block(1, 1), 1 << 0 | 1 << 7 | 1 << 9 | 1 << 11);
        due("corners above", () -> rock.block(1, 2), 4);
        WedgePlanes edge = new WedgePlanes(4, 4, 4);
        edge.joint(1, -1, 0, 0);
        due("a face that shares an edge alone is none, below", () -> edge.block(0, 1), 1 | 1 << 6 | 1 << 9 | 1 << 10 | 1 << 11);
        due("a face that shares an edge alone is none, above", () -> edge.block(1, 1), 1 | 1 << 7 | 1 << 8 | 1 << 10 | 1 << 11);
        due("corners of a prism", () -> edge.block(1, 2), 6);
        due("whole points on a joint are in no block", () -> edge.block(0, 3) + edge.block(1, 3), 18);
        WedgePlanes tip = new WedgePlanes(4, 4, 4);
        tip.joint(1, 0, -1, 0);
        tip.joint(0, 1, -1, 0);
        due("z = 4 shares a line alone, x = 0 a point", () -> tip.block(tip.find(1), 1), 1 | 2 | 1 << 7 | 1 << 8);
        due("corners of a pyramid", () -> tip.block(tip.find(3), 2), 5);
        WedgePlanes aslant = new WedgePlanes(4, 4, 4);
        aslant.joint(1, 1, 1, 5);
        due("whole points below", () -> aslant.block(0, 3), 4);
        due("whole points above", () -> aslant.block(1, 3), 17);
        edge.open(11, true);
        edge.direction(0, 0, 1);
        edge.take(1);
        due("not taken", () -> edge.block(0, 4), 0);
        due("taken", () -> edge.block(1, 4), 1);
        for (int far : FAR) {
            due("block " + far, () -> rock.block(far, 0), BOUNDS);
            due("what " + far, () -> rock.block(0, far), BOUNDS);
        }
        due("block 2 of 2", () -> rock.block(2, 0), BOUNDS);
        due("what 5", () -> rock.block(0, 5), BOUNDS);
    }

    private static void corner() {
        WedgePlanes rock = new WedgePlanes(3, 2, 1);
        due("corners of the box", () -> corners(rock, 0),
                "0 0 0 / 1, 0 0 1 / 1, 0 2 0 / 1, 0 2 1 / 1, 3 0 0 / 1, 3 0 1 / 1, 3 2 0 / 1, 3 2 1 / 1");
        for (int far : FAR) {
            due("block " + far, () -> rock.corner(far, 0, 0), BOUNDS);
            due("corner " + far, () -> rock.corner(0, far, 0), BOUNDS);
            due("what " + far, () -> rock.corner(0, 0, far), BOUNDS);
        }
        due("block 1 of 1", () -> rock.corner(1, 0, 0), BOUNDS);
        due("corner 8 of 8", () -> rock.corner(0, 8, 0), BOUNDS);
        due("what 4", () -> rock.corner(0, 0, 4), BOUNDS);
    }

    private static void cornersAsFractions() {
        WedgePlanes cube = new WedgePlanes(1, 1, 1);
        cube.joint(6, 4, 3, 12);
        due("one below for all three, as small as can be", () -> corners(cube, 1),
                "5 6 6 / 6, 4 3 4 / 4, 3 3 2 / 3, 1 1 1 / 1");
        cube.unjoint();
        cube.joint(-6, -4, -3, -12);
        due("the same plane turned round", () -> corners(cube, 0),
                "5 6 6 / 6, 4 3 4 / 4, 3 3 2 / 3, 1 1 1 / 1");
        WedgePlanes thirds = new WedgePlanes(8, 1, 1);
        thirds.joint(6, 0, 0, 4);
        thirds.joint(4, 0, 0, 3);
        due("by size, not by what is above", () -> corners(thirds, 1),
                "2 0 0 / 3, 2 0 3 / 3, 2 3 0 / 3, 2 3 3 / 3, 3 0 0 / 4, 3 0 4 / 4, 3 4 0 / 4, 3 4 4 / 4");
        WedgePlanes star = new WedgePlanes(2, 2, 2);
        int[][] through = {{1, 0, 0, 1}, {0, 1, 0, 1}, {0, 0, 1, 1}, {1, 1, 1, 3}};
        for (int[] p : through) {
            star.joint(p[0], p[1], p[2], p[3]);
        }
        due("a point of four planes is one corner", () -> corners(star, star.find(7 + 8)),
                "1 1 1 / 1, 1 1 2 / 1, 1 2 1 / 1, 1 2 2 / 1, 2 1 1 / 1, 2 1 2 / 1, 2 2 1 / 1, 2 2 2 / 1");
    }

    /** x = 2, and x + y + z = 5 that cuts off one corner of what is above: sides 0, 1, 3. */
    private static WedgePlanes threeBlocks() {
        WedgePlanes rock = new WedgePlanes(3, 2, 1);
        rock.joint(1, 0, 0, 2);
        rock.joint(1, 1, 1, 5);
        return rock;
    }

    /** x = 2 and z = 2: block 0 low, block 2 on it, block 1 low, block 3 on it. */
    private static WedgePlanes fourBlocks() {
        WedgePlanes rock = new WedgePlanes(4, 4, 4);
        rock.joint(1, 0, 0, 2);
        rock.joint(0, 0, 1, 2);
        return rock;
    }

    private static void find() {
        WedgePlanes rock = threeBlocks();
        int[] numbers = {0, 1, -1, 2, -1, -1, -1, -1};
        for (int s = 0; s < numbers.length; s++) {
            int sides = s;
            due("sides " + s, () -> rock.find(sides), numbers[s]);
        }
        for (int far : new int[] {Integer.MIN_VALUE, -1, 63, 64, 65, Integer.MAX_VALUE}) {
            due("sides " + far, () -> rock.find(far), -1);
        }
        rock.unjoint();
        due("sides 3 without joint 1", () -> rock.find(3), -1);
    }

    private static void beside() {
        WedgePlanes rock = threeBlocks();
        int[][] numbers = {{1, -1}, {0, 2}, {-1, 1}};
        for (int k = 0; k < 3; k++) {
            for (int j = 0; j < 2; j++) {
                int of = k;
                int at = j;
                due("beside " + k + " at " + j, () -> rock.beside(of, at), numbers[k][j]);
            }
        }
        for (int far : FAR) {
            due("block " + far, () -> rock.beside(far, 0), BOUNDS);
            due("joint " + far, () -> rock.beside(0, far), BOUNDS);
        }
        due("block 3 of 3", () -> rock.beside(3, 0), BOUNDS);
        due("joint 2 of 2", () -> rock.beside(0, 2), BOUNDS);
        due("a box face is no joint", () -> rock.beside(0, 6), BOUNDS);
    }

    private static void goes() {
        WedgePlanes rock = fourBlocks();
        rock.direction(0, 0, 1);
        rock.direction(1, 0, 0);
        rock.direction(1, 0, 1);
        due("all is shut", () -> rock.goes(2, 0), false);
        rock.open(11, true);
        due("through what is open", () -> rock.goes(2, 0), true);
        due("a block holds it", () -> rock.goes(0, 0), false);
        due("not sideways", () -> rock.goes(2, 1), false);
        due("not aslant", () -> rock.goes(2, 2), false);
        rock.take(3);
        due("a joint is free when the block beside it is taken", () -> rock.goes(2, 1), true);
        due("both are free", () -> rock.goes(2, 2), true);
        due("a taken block does not go", () -> rock.goes(3, 0), false);
        rock.take(2);
        due("free now", () -> rock.goes(0, 0), true);
        for (int far : FAR) {
            due("block " + far, () -> rock.goes(far, 0), BOUNDS);
            due("direction " + far, () -> rock.goes(0, far), BOUNDS);
            due("direction " + far + " of a taken block", () -> rock.goes(3, far), BOUNDS);
        }
        due("block 4 of 4", () -> rock.goes(4, 0), BOUNDS);
        due("direction 3 of 3", () -> rock.goes(0, 3), BOUNDS);
    }

    private static void take() {
        WedgePlanes rock = fourBlocks();
        rock.open(11, true);
        due("no direction", () -> rock.take(2), -1);
        rock.direction(0, 0, -1);
        due("not along it", () -> rock.take(2), -1);
        rock.direction(0, 0, 2);
        rock.direction(0, 0, 1);
        due("held", () -> rock.take(0), -1);
        due("the least direction", () -> rock.take(2), 1);
        due("once only", () -> rock.take(2), -1);
        due("what is behind it", () -> rock.take(0), 1);
        due("told", () -> rock.told(2), 2);
        due("taken bits", () -> "" + rock.block(0, 4) + rock.block(1, 4) + rock.block(2, 4) + rock.block(3, 4), "1010");
        for (int far : FAR) {
            due("block " + far, () -> rock.take(far), BOUNDS);
        }
        due("block 4 of 4", () -> rock.take(4), BOUNDS);
    }

    private static void order() {
        WedgePlanes rock = fourBlocks();
        due("no direction", rock::order, 0);
        rock.direction(0, 0, 1);
        due("all is shut", rock::order, 0);
        rock.open(11, true);
        due("all of them", rock::order, 4);
        due("the least one first, each time", () -> takenText(rock), "2 by 0, 0 by 0, 3 by 0, 1 by 0");
        due("none is left", rock::order, 0);
        rock.back();
        rock.take(3);
        due("the others", rock::order, 3);
        due("behind the one that was taken", () -> takenText(rock), "3 by 0, 1 by 0, 2 by 0, 0 by 0");
        rock.back();
        rock.open(6, true);
        rock.direction(-1, 0, 1);
        rock.direction(-1, 0, 0);
        due("by several", rock::order, 4);
        due("by the least direction", () -> takenText(rock), "0 by 2, 1 by 2, 2 by 0, 3 by 0");
        WedgePlanes held = new WedgePlanes(4, 4, 4);
        held.joint(0, 0, 1, 3);
        held.joint(1, 0, -1, 1);
        held.open(11, true);
        held.direction(1, 0, 4);
        due("some stay", held::order, 0);
        held.direction(0, 0, 1);
        due("one holds the other", held::order, 3);
        due("in their order", () -> takenText(held), "1 by 1, 0 by 0, 2 by 1");
    }

    private static String takenText(WedgePlanes rock) {
        StringBuilder text = new StringBuilder();
        for (int i = 0; i < rock.told(2); i++) {
            text.append(i == 0 ? "" : ", ").append(rock.taken(i, 0)).append(" by ").append(rock.taken(i, 1));
        }
        return text.toString();
    }

    private static void taken() {
        WedgePlanes rock = fourBlocks();
        due("none", () -> rock.taken(0, 0), BOUNDS);
        rock.open(11, true);
        rock.direction(0, 1, 1);
        rock.direction(0, 0, 1);
        rock.take(3);
        rock.take(1);
        due("first", () -> rock.taken(0, 0), 3);
        due("first, by", () -> rock.taken(0, 1), 1);
        due("second", () -> rock.taken(1, 0), 1);
        due("third", () -> rock.taken(2, 0), BOUNDS);
        due("what 2", () -> rock.taken(0, 2), BOUNDS);
        for (int far : FAR) {
            due("number " + far, () -> rock.taken(far, 0), BOUNDS);
            due("what " + far, () -> rock.taken(0, far), BOUNDS);
        }
    }

    private static void back() {
        WedgePlanes rock = fourBlocks();
        due("none", rock::back, 0);
        rock.open(11, true);
        rock.direction(0, 0, 1);
        rock.take(3);
        rock.take(2);
        due("two", rock::back, 2);
        due("none is left", rock::back, 0);
        due("taken", () -> rock.told(2), 0);
        due("not taken", () -> rock.block(3, 4), 0);
        due("no first one", () -> rock.taken(0, 0), BOUNDS);
        due("they hold again", () -> rock.goes(0, 0), false);
        due("they go again", () -> rock.take(3), 0);
        due("the first one now", () -> rock.taken(0, 0), 3);
        due("joints and directions stay", () -> rock.told(0) + rock.told(1), 3);
    }

    private static Object modeBy(WedgePlanes rock, int k, int u, int v, int w) {
        rock.pull(u, v, w);
        return rock.mode(k);
    }

    private static void modeOfWholeBox() {
        WedgePlanes rock = new WedgePlanes(4, 4, 4);
        due("shut", () -> rock.mode(0), 0);
        rock.open(8, true);
        due("no pull", () -> modeBy(rock, 0, 0, 0, 0), 0);
        due("falls", () -> modeBy(rock, 0, 0, -1, 0), 1);
        due("slides on z = 0", () -> modeBy(rock, 0, 0, -1, -1), 10 + 10);
        due("slides on z = 4", () -> modeBy(rock, 0, 0, -2, 9), 10 + 11);
        due("slides on x = 0", () -> modeBy(rock, 0, -3, -1, 0), 10 + 6);
        due("slides on x = 4", () -> modeBy(rock, 0, 1, -9, 0), 10 + 7);
        due("no slide is left", () -> modeBy(rock, 0, 0, 0, -1), 0);
        due("along x = 0 and z = 0", () -> modeBy(rock, 0, -1, -1, -1), 100 + 12 * 6 + 10);
        due("along x = 4 and z = 4", () -> modeBy(rock, 0, 1, -1, 1), 100 + 12 * 7 + 11);
        due("the line goes not with the pull", () -> modeBy(rock, 0, -1, 0, -1), 0);
        due("the line leads into y = 4", () -> modeBy(rock, 0, -1, 1, -1), 0);
        rock.open(9, true);
        due("the line turned round", () -> modeBy(rock, 0, -1, 1, -1), 100 + 12 * 6 + 10);
        for (int f = 6; f < 12; f++) {
            rock.open(f, true);
        }
        due("nothing holds", () -> modeBy(rock, 0, -1, 1, -1), 1);
        due("nothing holds, no pull", () -> modeBy(rock, 0, 0, 0, 0), 0);
    }

    private static void modeOfWedges() {
        WedgePlanes rock = new WedgePlanes(4, 4, 4);
        rock.joint(1, 0, 1, 2);
        rock.open(8, true);
        due("the least faces of several", () -> modeBy(rock, 1, -1, -1, -2), 100 + 7);
        due("below the joint", () -> modeBy(rock, 0, -1, -1, -2), 100 + 12 * 6 + 10);
        due("slides on the joint", () -> modeBy(rock, 1, -1, -1, -1), 10 + 0);
        due("slides on the joint, below it", () -> modeBy(rock, 0, 1, -1, 1), 10 + 0);
        rock.open(7, true);
        due("a free face is none to slide on", () -> modeBy(rock, 1, -1, -1, -2), 100 + 10);
        due("along the joint and x = 0", () -> modeBy(rock, 1, -2, -1, -1), 100 + 6);
        rock.open(10, true);
        due("slides down the joint", () -> modeBy(rock, 1, 0, 0, -1), 10 + 0);
        due("falls past it", () -> modeBy(rock, 0, 0, 0, -1), 1);
        rock.direction(0, 0, -1);
        rock.take(0);
        due("a taken block", () -> rock.mode(0), -1);
        due("the joint is free", () -> rock.mode(1), 1);
        rock.pull(0, 0, 0);
        due("a taken block, no pull", () -> rock.mode(0), -1);
    }

    private static void modeOnSlopes() {
        int[][] slopes = {{0, 1, 1}, {1, 0, 1}, {1, 1, 0}};
        int[][] pulls = {{0, 0, -1}, {0, 0, -1}, {0, -1, 0}};
        int[] way = {9, 7, 7};
        for (int i = 0; i < 3; i++) {
            WedgePlanes rock = new WedgePlanes(4, 4, 4);
            int[] n = slopes[i];
            int[] g = pulls[i];
            rock.joint(n[0], n[1], n[2], 4);
            due("shut " + i, () -> modeBy(rock, 1, g[0], g[1], g[2]), 0);
            rock.open(way[i], true);
            due("slides down slope " + i, () -> modeBy(rock, 1, g[0], g[1], g[2]), 10);
            due("the other stays " + i, () -> modeBy(rock, 0, g[0], g[1], g[2]), 0);
        }
    }

    private static void modeWrong() {
        WedgePlanes rock = fourBlocks();
        for (int far : FAR) {
            due("block " + far, () -> rock.mode(far), BOUNDS);
        }
        due("block 4 of 4", () -> rock.mode(4), BOUNDS);
    }

    private static void told() {
        WedgePlanes rock = new WedgePlanes(3, 2, 1);
        rock.joint(1, 1, 1, 5);
        due("joints", () -> rock.told(0), 1);
        due("corners, two of them new", () -> rock.told(3), 10);
        rock.joint(1, 0, 0, 2);
        due("joints", () -> rock.told(0), 2);
        due("corners, three of them new", () -> rock.told(3), 13);
        rock.open(11, true);
        rock.direction(0, 0, 1);
        rock.direction(0, 1, 0);
        due("directions", () -> rock.told(1), 2);
        rock.take(0);
        due("taken", () -> rock.told(2), 1);
        due("corners of taken blocks are there too", () -> rock.told(3), 13);
        rock.unjoint();
        due("corners, three of them gone", () -> rock.told(3), 10);
        for (int far : FAR) {
            due("what " + far, () -> rock.told(far), BOUNDS);
        }
        due("what 4", () -> rock.told(4), BOUNDS);
    }
}
