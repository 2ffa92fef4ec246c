/**
 * Blocks of rock: a box cut by joints that are planes. All geometry is exact: it is done with
 * whole numbers and with fractions of them.
 */
public final class WedgePlanes {
    public static final int NONE = -1;

    private static final int MOST_SIZE = 8;
    private static final int MOST_PART = 6;
    private static final int MOST_LEVEL = 100;
    private static final int MOST_STEP = 9;
    private static final int MOST_JOINTS = 6;
    private static final int MOST_DIRECTIONS = 8;
    private static final int FACES = 12;
    private static final int ALL_SIDES = 1 << MOST_JOINTS;

    /** The box lies above x = 0, y = 0, z = 0 and below its other faces, as a block at joints. */
    private static final int BOX_SIDES = 1 << 6 | 1 << 8 | 1 << 10;

    private static final int STAYS = 0;
    private static final int FALLS = 1;
    private static final int SLIDES_ON_ONE = 10;
    private static final int SLIDES_ON_TWO = 100;

    private final Rock rock;
    private final Hold hold = new Hold();
    private final Arrow[] directions = new Arrow[MOST_DIRECTIONS];
    private final Arrow pulling = new Arrow();
    private final boolean[] isTaken = new boolean[ALL_SIDES];
    private final int[] takenBlocks = new int[ALL_SIDES];
    private final int[] takenBy = new int[ALL_SIDES];
    private int takenCount = 0;
    private int directionCount = 0;
    private int openFaces = 0;

    public WedgePlanes(int x, int y, int z) {
        rock = new Rock(sizeFor(x), sizeFor(y), sizeFor(z));
        for (int i = 0; i < MOST_DIRECTIONS; i++) {
            directions[i] = new Arrow();
        }
        pulling.set(0, 0, -1);
    }

    public int joint(int a, int b, int c, int d) throws IllegalArgumentException, IllegalStateException {
        if (!isJoint(a, b, c, d) || rock.hasJoint(a, b, c, d)) {
            throw new IllegalArgumentException("no plane that cuts the box, or a joint already");
        }
        if (rock.jointCount >= MOST_JOINTS) {
            throw new IllegalStateException("there are 6 joints");
        }
        putAllBack();
        rock.addJoint(a, b, c, d);
        return rock.jointCount - 1;
    }

    public int unjoint() {
        if (rock.jointCount == 0) {
            return NONE;
        }
        putAllBack();
        rock.dropJoint();
        return rock.jointCount;
    }

    public boolean open(int face, boolean on) throws IndexOutOfBoundsException {
        if (face < MOST_JOINTS || face >= FACES) {
            throw new IndexOutOfBoundsException("no face of the box");
        }
        boolean changes = hasBit(openFaces, face) != on;
        if (changes) {
            openFaces ^= 1 << face;
        }
        return changes;
    }

    public int direction(int u, int v, int w) throws IllegalArgumentException, IllegalStateException {
        if (!isStep(u, v, w) || (u == 0 && v == 0 && w == 0)) {
            throw new IllegalArgumentException("parts are -9 to 9, not all 0");
        }
        if (directionCount >= MOST_DIRECTIONS) {
            throw new IllegalStateException("there are 8 directions");
        }
        directions[directionCount].set(u, v, w);
        directionCount++;
        return directionCount - 1;
    }

    public void pull(int u, int v, int w) throws IllegalArgumentException {
        if (!isStep(u, v, w)) {
            throw new IllegalArgumentException("parts are -9 to 9");
        }
        pulling.set(u, v, w);
    }

    public int blocks() {
        return rock.blockCount;
    }

    public int block(int k, int what) throws IndexOutOfBoundsException {
        needBlock(k);
        switch (what) {
            case 0:
                return rock.sides[k];
            case 1:
                return rock.faces[k];
            case 2:
                return rock.cornerCounts[k];
            case 3:
                return rock.countWholePoints(k);
            case 4:
                return isTaken[k] ? 1 : 0;
            default:
                throw new IndexOutOfBoundsException("what is 0 to 4");
        }
    }

    public int corner(int k, int i, int what) throws IndexOutOfBoundsException {
        needBlock(k);
        if (i < 0 || i >= rock.cornerCounts[k]) {
            throw new IndexOutOfBoundsException("no such corner");
        }
        int p = rock.cornerPoint(k, i);
        switch (what) {
            case 0:
                return rock.points.x[p];
            case 1:
                return rock.points.y[p];
            case 2:
                return rock.points.z[p];
            case 3:
                return rock.points.q[p];
            default:
                throw new IndexOutOfBoundsException("what is 0 to 3");
        }
    }

    public int find(int sides) {
        return sides < 0 || sides >= ALL_SIDES ? NONE : rock.numbers[sides];
    }

    public int beside(int k, int joint) throws IndexOutOfBoundsException {
        needBlock(k);
        if (joint < 0 || joint >= rock.jointCount) {
            throw new IndexOutOfBoundsException("no such joint");
        }
        return rock.neighbour(k, joint);
    }

    public boolean goes(int k, int direction) throws IndexOutOfBoundsException {
        needBlock(k);
        if (direction < 0 || direction >= directionCount) {
            throw new IndexOutOfBoundsException("no such direction");
        }
        if (isTaken[k]) {
            return false;
        }
        lookAtHold(k);
        return hold.lets(directions[direction]);
    }

    public int take(int k) throws IndexOutOfBoundsException {
        needBlock(k);
        int by = leastDirection(k);
        if (by != NONE) {
            putAway(k, by);
        }
        return by;
    }

    public int order() {
        int count = 0;
        while (count < ALL_SIDES && takeLeast()) {
            count++;
        }
        return count;
    }

    public int taken(int i, int what) throws IndexOutOfBoundsException {
        if (i < 0 || i >= takenCount) {
            throw new IndexOutOfBoundsException("not so many blocks are taken");
        }
        if (what < 0 || what > 1) {
            throw new IndexOutOfBoundsException("what is 0 or 1");
        }
        return what == 0 ? takenBlocks[i] : takenBy[i];
    }

    public int back() {
        int count = takenCount;
        putAllBack();
        return count;
    }

    public int mode(int k) throws IndexOutOfBoundsException {
        needBlock(k);
        if (isTaken[k]) {
            return NONE;
        }
        lookAtHold(k);
        return hold.answerTo(pulling);
    }

    public int told(int what) throws IndexOutOfBoundsException {
        switch (what) {
            case 0:
                return rock.jointCount;
            case 1:
                return directionCount;
            case 2:
                return takenCount;
            case 3:
                // Each point at which planes meet in the box is a corner of every block it touches.
                return rock.points.count;
            default:
                throw new IndexOutOfBoundsException("what is 0 to 3");
        }
    }

    private static int sizeFor(int size) {
        return Math.max(1, Math.min(MOST_SIZE, size));
    }

    private static boolean hasBit(int bits, int i) {
        return (bits >> i & 1) == 1;
    }

    private static boolean isWithin(int value, int most) {
        return value >= -most && value <= most;
    }

    private static boolean isStep(int u, int v, int w) {
        return isWithin(u, MOST_STEP) && isWithin(v, MOST_STEP) && isWithin(w, MOST_STEP);
    }

    // The ranges come first, so that nothing is multiplied that could run over. A plane of three
    // zeros needs no test of its own: it has no corner of the box on either side.
    private boolean isJoint(int a, int b, int c, int d) {
        return isWithin(a, MOST_PART) && isWithin(b, MOST_PART) && isWithin(c, MOST_PART)
                && isWithin(d, MOST_LEVEL) && rock.isCutBy(a, b, c, d);
    }

    private void needBlock(int k) throws IndexOutOfBoundsException {
        if (k < 0 || k >= rock.blockCount) {
            throw new IndexOutOfBoundsException("no such block");
        }
    }

    private void putAllBack() {
        for (int k = 0; k < ALL_SIDES; k++) {
            isTaken[k] = false;
        }
        takenCount = 0;
    }

    private void putAway(int k, int by) {
        if (takenCount < ALL_SIDES) {
            isTaken[k] = true;
            takenBlocks[takenCount] = k;
            takenBy[takenCount] = by;
            takenCount++;
        }
    }

    private boolean takeLeast() {
        for (int k = 0; k < rock.blockCount; k++) {
            int by = leastDirection(k);
            if (by != NONE) {
                putAway(k, by);
                return true;
            }
        }
        return false;
    }

    private int leastDirection(int k) {
        if (isTaken[k]) {
            return NONE;
        }
        lookAtHold(k);
        for (int i = 0; i < directionCount; i++) {
            if (hold.lets(directions[i])) {
                return i;
            }
        }
        return NONE;
    }

    private void lookAtHold(int k) {
        int fullSides = rock.sides[k] | BOX_SIDES;
        hold.clear();
        for (int f = 0; f < FACES; f++) {
            if (hasBit(rock.faces[k], f) && !isFree(k, f)) {
                hold.add(f, rock.planes[f].normal, hasBit(fullSides, f));
            }
        }
    }

    private boolean isFree(int k, int f) {
        if (f >= MOST_JOINTS) {
            return hasBit(openFaces, f);
        }
        int other = rock.neighbour(k, f);
        return other != NONE && isTaken[other];
    }

    /** Three whole numbers: a direction, a pull, what stands upright on a plane. */
    private static final class Arrow {
        int x = 0;
        int y = 0;
        int z = 0;

        void set(int newX, int newY, int newZ) {
            x = newX;
            y = newY;
            z = newZ;
        }

        void setScaled(Arrow other, int by) {
            set(other.x * by, other.y * by, other.z * by);
        }

        void setCross(Arrow p, Arrow r) {
            set(p.y * r.z - p.z * r.y, p.z * r.x - p.x * r.z, p.x * r.y - p.y * r.x);
        }

        /** What is left of a pull along the plane on which the other arrow stands upright. */
        void setSlide(Arrow pull, Arrow upright) {
            int length = upright.times(upright);
            int into = pull.times(upright);
            set(pull.x * length - upright.x * into,
                    pull.y * length - upright.y * into,
                    pull.z * length - upright.z * into);
        }

        int times(Arrow other) {
            return x * other.x + y * other.y + z * other.z;
        }

        boolean isZero() {
            return x == 0 && y == 0 && z == 0;
        }
    }

    /** All points that have d as their product with the normal; box faces and joints alike. */
    private static final class Plane {
        final Arrow normal = new Arrow();
        int d = 0;

        void set(int a, int b, int c, int newD) {
            normal.set(a, b, c);
            d = newD;
        }

        /** Above 0 for a point x/q, y/q, z/q above the plane, below 0 for one below it. */
        int heightOf(int x, int y, int z, int q) {
            return normal.x * x + normal.y * y + normal.z * z - d * q;
        }

        boolean isSame(int a, int b, int c, int otherD) {
            return normal.x * b == normal.y * a && normal.x * c == normal.z * a
                    && normal.y * c == normal.z * b && normal.x * otherD == d * a
                    && normal.y * otherD == d * b && normal.z * otherD == d * c;
        }
    }

    /**
     * The points of the box at which three of its planes meet, each once, as x/q, y/q, z/q in
     * lowest terms, and which planes they are above and below, as bits.
     */
    private static final class Points {
        /** So many threes are there of twelve planes. */
        static final int MOST = 220;

        final int[] x = new int[MOST];
        final int[] y = new int[MOST];
        final int[] z = new int[MOST];
        final int[] q = new int[MOST];
        final int[] above = new int[MOST];
        final int[] below = new int[MOST];
        int count = 0;

        boolean has(int px, int py, int pz, int pq) {
            for (int p = 0; p < count; p++) {
                if (x[p] == px && y[p] == py && z[p] == pz && q[p] == pq) {
                    return true;
                }
            }
            return false;
        }

        void add(int px, int py, int pz, int pq) {
            if (count < MOST) {
                x[count] = px;
                y[count] = py;
                z[count] = pz;
                q[count] = pq;
                above[count] = 0;
                below[count] = 0;
                count++;
            }
        }

        void tellSide(int p, int face, Plane plane) {
            int height = plane.heightOf(x[p], y[p], z[p], q[p]);
            if (height > 0) {
                above[p] |= 1 << face;
            } else if (height < 0) {
                below[p] |= 1 << face;
            }
        }

        /** Points are added at the end, so those of the latest joint are all behind a count. */
        void dropFace(int face, int countBefore) {
            count = countBefore;
            for (int p = 0; p < count; p++) {
                above[p] &= ~(1 << face);
                below[p] &= ~(1 << face);
            }
        }

        boolean touches(int p, int fullSides) {
            return (above[p] & ~fullSides) == 0 && (below[p] & fullSides) == 0;
        }

        boolean isBefore(int p, int r) {
            int byX = Integer.compare(x[p] * q[r], x[r] * q[p]);
            int byY = Integer.compare(y[p] * q[r], y[r] * q[p]);
            int byZ = Integer.compare(z[p] * q[r], z[r] * q[p]);
            return byX < 0 || (byX == 0 && (byY < 0 || (byY == 0 && byZ < 0)));
        }
    }

    /** The box, its joints, and the blocks that they make. */
    private static final class Rock {
        final Plane[] planes = new Plane[FACES];
        final Points points = new Points();
        final int[] sides = new int[ALL_SIDES];
        final int[] faces = new int[ALL_SIDES];
        final int[] cornerCounts = new int[ALL_SIDES];
        final int[] numbers = new int[ALL_SIDES];
        int jointCount = 0;
        int blockCount = 0;

        private final int sizeX;
        private final int sizeY;
        private final int sizeZ;
        private final int[] pointsBefore = new int[MOST_JOINTS];
        private final int[] sorted = new int[Points.MOST];
        private final Arrow crossA = new Arrow();
        private final Arrow crossB = new Arrow();
        private final Arrow crossC = new Arrow();
        private int known = 0;

        Rock(int x, int y, int z) {
            sizeX = x;
            sizeY = y;
            sizeZ = z;
            for (int f = 0; f < FACES; f++) {
                planes[f] = new Plane();
            }
            planes[6].set(1, 0, 0, 0);
            planes[7].set(1, 0, 0, x);
            planes[8].set(0, 1, 0, 0);
            planes[9].set(0, 1, 0, y);
            planes[10].set(0, 0, 1, 0);
            planes[11].set(0, 0, 1, z);
            for (int f = MOST_JOINTS; f < FACES; f++) {
                addFace(f);
            }
            findBlocks();
        }

        boolean isCutBy(int a, int b, int c, int d) {
            int least = Math.min(0, a * sizeX) + Math.min(0, b * sizeY) + Math.min(0, c * sizeZ);
            int most = Math.max(0, a * sizeX) + Math.max(0, b * sizeY) + Math.max(0, c * sizeZ);
            return least < d && d < most;
        }

        boolean hasJoint(int a, int b, int c, int d) {
            for (int j = 0; j < jointCount; j++) {
                if (planes[j].isSame(a, b, c, d)) {
                    return true;
                }
            }
            return false;
        }

        void addJoint(int a, int b, int c, int d) {
            if (jointCount < MOST_JOINTS) {
                planes[jointCount].set(a, b, c, d);
                pointsBefore[jointCount] = points.count;
                addFace(jointCount);
                jointCount++;
                findBlocks();
            }
        }

        void dropJoint() {
            if (jointCount > 0) {
                jointCount--;
                known &= ~(1 << jointCount);
                points.dropFace(jointCount, pointsBefore[jointCount]);
                findBlocks();
            }
        }

        int neighbour(int k, int j) {
            return hasBit(faces[k], j) ? numbers[sides[k] ^ 1 << j] : NONE;
        }

        /** The point that is the block's i-th corner, by x, then y, then z. */
        int cornerPoint(int k, int i) {
            int fullSides = sides[k] | BOX_SIDES;
            int found = 0;
            for (int p = 0; p < points.count; p++) {
                if (points.touches(p, fullSides)) {
                    sortIn(p, found);
                    found++;
                }
            }
            return sorted[i];
        }

        int countWholePoints(int k) {
            int count = 0;
            for (int x = 1; x < sizeX; x++) {
                for (int y = 1; y < sizeY; y++) {
                    for (int z = 1; z < sizeZ; z++) {
                        if (isOnSides(sides[k], x, y, z)) {
                            count++;
                        }
                    }
                }
            }
            return count;
        }

        private boolean isOnSides(int wanted, int x, int y, int z) {
            for (int j = 0; j < jointCount; j++) {
                int height = planes[j].heightOf(x, y, z, 1);
                if (height == 0 || height > 0 != hasBit(wanted, j)) {
                    return false;
                }
            }
            return true;
        }

        private void sortIn(int p, int found) {
            int at = found;
            while (at > 0 && points.isBefore(p, sorted[at - 1])) {
                sorted[at] = sorted[at - 1];
                at--;
            }
            sorted[at] = p;
        }

        private void addFace(int f) {
            for (int p = 0; p < points.count; p++) {
                points.tellSide(p, f, planes[f]);
            }
            int others = known;
            known |= 1 << f;
            for (int g = 0; g < FACES; g++) {
                for (int h = g + 1; h < FACES; h++) {
                    if (hasBit(others, g) && hasBit(others, h)) {
                        meet(planes[f], planes[g], planes[h]);
                    }
                }
            }
        }

        private void meet(Plane f, Plane g, Plane h) {
            crossA.setCross(g.normal, h.normal);
            crossB.setCross(h.normal, f.normal);
            crossC.setCross(f.normal, g.normal);
            int q = f.normal.times(crossA);
            if (q == 0) {
                return;
            }
            int sign = q > 0 ? 1 : -1;
            int x = f.d * crossA.x + g.d * crossB.x + h.d * crossC.x;
            int y = f.d * crossA.y + g.d * crossB.y + h.d * crossC.y;
            int z = f.d * crossA.z + g.d * crossB.z + h.d * crossC.z;
            addPoint(sign * x, sign * y, sign * z, sign * q);
        }

        private void addPoint(int x, int y, int z, int q) {
            if (!isInBox(x, y, z, q)) {
                return;
            }
            int by = commonDivisor(commonDivisor(x, y), commonDivisor(z, q));
            if (by == 0 || points.has(x / by, y / by, z / by, q / by)) {
                return;
            }
            points.add(x / by, y / by, z / by, q / by);
            for (int f = 0; f < FACES; f++) {
                if (hasBit(known, f)) {
                    points.tellSide(points.count - 1, f, planes[f]);
                }
            }
        }

        private boolean isInBox(int x, int y, int z, int q) {
            return x >= 0 && x <= sizeX * q && y >= 0 && y <= sizeY * q && z >= 0 && z <= sizeZ * q;
        }

        // Euclid's steps on two ints are fewer than 50, so the bound never cuts them short.
        private static int commonDivisor(int p, int r) {
            int a = p;
            int b = r;
            for (int i = 0; i < 64 && b != 0; i++) {
                int rest = a % b;
                a = b;
                b = rest;
            }
            return a;
        }

        private void findBlocks() {
            blockCount = 0;
            for (int s = 0; s < ALL_SIDES; s++) {
                numbers[s] = NONE;
                if (s < 1 << jointCount) {
                    findBlock(s);
                }
            }
        }

        /**
         * Points on these sides, or on planes beside them, are the corners of one body. It is a
         * block if it is not flat, which is when no plane has all of them. A plane is a face if it
         * has three of them, as no three corners of a body are on one line.
         */
        private void findBlock(int s) {
            int corners = 0;
            int left = 0;
            int once = 0;
            int twice = 0;
            int thrice = 0;
            for (int p = 0; p < points.count; p++) {
                if (points.touches(p, s | BOX_SIDES)) {
                    int off = points.above[p] | points.below[p];
                    int on = known & ~off;
                    corners++;
                    left |= off;
                    thrice |= twice & on;
                    twice |= once & on;
                    once |= on;
                }
            }
            if (left == known) {
                addBlock(s, thrice, corners);
            }
        }

        private void addBlock(int s, int faceBits, int corners) {
            if (blockCount < ALL_SIDES) {
                sides[blockCount] = s;
                faces[blockCount] = faceBits;
                cornerCounts[blockCount] = corners;
                numbers[s] = blockCount;
                blockCount++;
            }
        }
    }

    /** The faces that hold one block, and what they let it do. */
    private static final class Hold {
        private final Arrow[] inward = new Arrow[FACES];
        private final Arrow[] slide = new Arrow[FACES];
        private final Arrow line = new Arrow();
        private int faces = 0;

        Hold() {
            for (int f = 0; f < FACES; f++) {
                inward[f] = new Arrow();
                slide[f] = new Arrow();
            }
        }

        void clear() {
            faces = 0;
        }

        void add(int f, Arrow normal, boolean isAbove) {
            faces |= 1 << f;
            inward[f].setScaled(normal, isAbove ? 1 : -1);
        }

        boolean lets(Arrow along) {
            if (along.isZero()) {
                return false;
            }
            for (int f = 0; f < FACES; f++) {
                if (hasBit(faces, f) && along.times(inward[f]) < 0) {
                    return false;
                }
            }
            return true;
        }

        int answerTo(Arrow pull) {
            if (lets(pull)) {
                return FALLS;
            }
            for (int f = 0; f < FACES; f++) {
                if (hasBit(faces, f)) {
                    slide[f].setSlide(pull, inward[f]);
                }
            }
            int onOne = slideOnOne(pull);
            return onOne != STAYS ? onOne : slideOnTwo(pull);
        }

        private int slideOnOne(Arrow pull) {
            for (int f = 0; f < FACES; f++) {
                if (hasBit(faces, f) && pull.times(inward[f]) < 0 && lets(slide[f])) {
                    return SLIDES_ON_ONE + f;
                }
            }
            return STAYS;
        }

        private int slideOnTwo(Arrow pull) {
            for (int f = 0; f < FACES; f++) {
                for (int h = f + 1; h < FACES; h++) {
                    if (hasBit(faces, f) && hasBit(faces, h) && slidesAlong(f, h, pull)) {
                        return SLIDES_ON_TWO + FACES * f + h;
                    }
                }
            }
            return STAYS;
        }

        private boolean slidesAlong(int f, int h, Arrow pull) {
            line.setCross(inward[f], inward[h]);
            if (pull.times(line) < 0) {
                line.setScaled(line, -1);
            }
            return pull.times(line) > 0 && lets(line)
                    && slide[f].times(inward[h]) < 0 && slide[h].times(inward[f]) < 0;
        }
    }
}
