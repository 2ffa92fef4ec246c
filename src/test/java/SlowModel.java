import java.math.BigInteger;
import java.util.ArrayList;
import java.util.List;
import java.util.Set;
import java.util.TreeMap;
import java.util.TreeSet;

/**
 * The document once more, by other means than the program: a block is there, and a face is of it,
 * if a set of inequalities has a solution (Fourier's elimination), and nothing is kept but what
 * was told. It is slow, and is there to be compared with.
 */
public final class SlowModel {
    private final int[] size;
    private final List<int[]> joints = new ArrayList<>();
    private final List<int[]> directions = new ArrayList<>();
    private final List<int[]> taken = new ArrayList<>();
    private final Set<Integer> openFaces = new TreeSet<>();
    private int[] pull = {0, 0, -1};
    private List<Part> parts;

    private static final class Part {
        int sides;
        Set<Integer> faces = new TreeSet<>();
        TreeSet<Corner> corners = new TreeSet<>();
    }

    private record Corner(BigInteger x, BigInteger y, BigInteger z, BigInteger q) implements Comparable<Corner> {
        static Corner of(BigInteger x, BigInteger y, BigInteger z, BigInteger q) {
            BigInteger by = x.gcd(y).gcd(z).gcd(q);
            by = q.signum() < 0 ? by.negate() : by;
            return new Corner(x.divide(by), y.divide(by), z.divide(by), q.divide(by));
        }

        public int compareTo(Corner o) {
            int byX = x.multiply(o.q).compareTo(o.x.multiply(q));
            int byY = y.multiply(o.q).compareTo(o.y.multiply(q));
            int byZ = z.multiply(o.q).compareTo(o.z.multiply(q));
            return byX != 0 ? byX : byY != 0 ? byY : byZ;
        }
    }

    public SlowModel(int x, int y, int z) {
        size = new int[] {clamp(x), clamp(y), clamp(z)};
        cut();
    }

    private static int clamp(int s) {
        return s < 1 ? 1 : s > 8 ? 8 : s;
    }

    public int joint(int a, int b, int c, int d) {
        if (Math.abs((long) a) > 6 || Math.abs((long) b) > 6 || Math.abs((long) c) > 6
                || Math.abs((long) d) > 100 || a == 0 && b == 0 && c == 0) {
            throw new IllegalArgumentException();
        }
        boolean more = false;
        boolean less = false;
        for (int i = 0; i < 8; i++) {
            int v = a * (i & 1) * size[0] + b * (i >> 1 & 1) * size[1] + c * (i >> 2) * size[2];
            more |= v > d;
            less |= v < d;
        }
        if (!more || !less) {
            throw new IllegalArgumentException();
        }
        for (int[] j : joints) {
            if (sameForm(lowest(j[0], j[1], j[2], j[3]), lowest(a, b, c, d))) {
                throw new IllegalArgumentException();
            }
        }
        if (joints.size() == 6) {
            throw new IllegalStateException();
        }
        joints.add(new int[] {a, b, c, d});
        taken.clear();
        cut();
        return joints.size() - 1;
    }

    private static int[] lowest(int... v) {
        int by = 0;
        for (int n : v) {
            by = BigInteger.valueOf(by).gcd(BigInteger.valueOf(n)).intValue();
        }
        int first = v[0] != 0 ? v[0] : v[1] != 0 ? v[1] : v[2];
        by = first < 0 ? -by : by;
        return new int[] {v[0] / by, v[1] / by, v[2] / by, v[3] / by};
    }

    private static boolean sameForm(int[] p, int[] r) {
        return java.util.Arrays.equals(p, r);
    }

    public int unjoint() {
        if (joints.isEmpty()) {
            return -1;
        }
        joints.remove(joints.size() - 1);
        taken.clear();
        cut();
        return joints.size();
    }

    public boolean open(int face, boolean on) {
        if (face < 6 || face > 11) {
            throw new IndexOutOfBoundsException();
        }
        return on ? openFaces.add(face) : openFaces.remove(face);
    }

    public int direction(int u, int v, int w) {
        pullable(u, v, w);
        if (u == 0 && v == 0 && w == 0) {
            throw new IllegalArgumentException();
        }
        if (directions.size() == 8) {
            throw new IllegalStateException();
        }
        directions.add(new int[] {u, v, w});
        return directions.size() - 1;
    }

    public void pull(int u, int v, int w) {
        pullable(u, v, w);
        pull = new int[] {u, v, w};
    }

    private static void pullable(int... parts) {
        for (int p : parts) {
            if (p < -9 || p > 9) {
                throw new IllegalArgumentException();
            }
        }
    }

    public int blocks() {
        return parts.size();
    }

    public int block(int k, int what) {
        Part b = part(k);
        switch (what) {
            case 0: return b.sides;
            case 1: return b.faces.stream().mapToInt(f -> 1 << f).sum();
            case 2: return b.corners.size();
            case 3: return wholePoints(b);
            case 4: return isTaken(k) ? 1 : 0;
            default: throw new IndexOutOfBoundsException();
        }
    }

    public int corner(int k, int i, int what) {
        Part b = part(k);
        if (i < 0 || i >= b.corners.size() || what < 0 || what > 3) {
            throw new IndexOutOfBoundsException();
        }
        Corner c = new ArrayList<>(b.corners).get(i);
        return List.of(c.x, c.y, c.z, c.q).get(what).intValueExact();
    }

    public int find(int sides) {
        for (int k = 0; k < parts.size(); k++) {
            if (parts.get(k).sides == sides) {
                return k;
            }
        }
        return -1;
    }

    public int beside(int k, int joint) {
        Part b = part(k);
        if (joint < 0 || joint >= joints.size()) {
            throw new IndexOutOfBoundsException();
        }
        return b.faces.contains(joint) ? find(b.sides ^ 1 << joint) : -1;
    }

    public boolean goes(int k, int direction) {
        part(k);
        if (direction < 0 || direction >= directions.size()) {
            throw new IndexOutOfBoundsException();
        }
        return canGo(k, directions.get(direction));
    }

    public int take(int k) {
        part(k);
        for (int i = 0; i < directions.size(); i++) {
            if (canGo(k, directions.get(i))) {
                taken.add(new int[] {k, i});
                return i;
            }
        }
        return -1;
    }

    public int order() {
        int before = taken.size();
        for (int k = 0; k < parts.size(); k++) {
            if (take(k) != -1) {
                k = -1;
            }
        }
        return taken.size() - before;
    }

    public int taken(int i, int what) {
        if (i < 0 || i >= taken.size() || what < 0 || what > 1) {
            throw new IndexOutOfBoundsException();
        }
        return taken.get(i)[what];
    }

    public int back() {
        int n = taken.size();
        taken.clear();
        return n;
    }

    public int mode(int k) {
        part(k);
        if (isTaken(k)) {
            return -1;
        }
        if (canGo(k, pull)) {
            return 1;
        }
        List<Integer> held = holders(k);
        for (int f : held) {
            if (dot(pull, inward(k, f)) < 0 && canGo(k, slide(k, f))) {
                return 10 + f;
            }
        }
        for (int f : held) {
            for (int h : held) {
                if (f < h) {
                    int[] line = cross(inward(k, f), inward(k, h));
                    if (dot(pull, line) < 0) {
                        line = new int[] {-line[0], -line[1], -line[2]};
                    }
                    if (dot(pull, line) > 0 && canGo(k, line) && dot(slide(k, f), inward(k, h)) < 0
                            && dot(slide(k, h), inward(k, f)) < 0) {
                        return 100 + 12 * f + h;
                    }
                }
            }
        }
        return 0;
    }

    public int told(int what) {
        switch (what) {
            case 0: return joints.size();
            case 1: return directions.size();
            case 2: return taken.size();
            case 3: {
                TreeSet<Corner> all = new TreeSet<>();
                parts.forEach(b -> all.addAll(b.corners));
                return all.size();
            }
            default: throw new IndexOutOfBoundsException();
        }
    }

    private Part part(int k) {
        if (k < 0 || k >= parts.size()) {
            throw new IndexOutOfBoundsException();
        }
        return parts.get(k);
    }

    private boolean isTaken(int k) {
        return taken.stream().anyMatch(t -> t[0] == k);
    }

    private List<Integer> holders(int k) {
        List<Integer> held = new ArrayList<>();
        for (int f : parts.get(k).faces) {
            boolean free = f >= 6 ? openFaces.contains(f) : isTaken(find(parts.get(k).sides ^ 1 << f));
            if (!free) {
                held.add(f);
            }
        }
        return held;
    }

    private boolean canGo(int k, int[] v) {
        return !isTaken(k) && dot(v, v) != 0
                && holders(k).stream().allMatch(f -> dot(v, inward(k, f)) >= 0);
    }

    private int[] inward(int k, int f) {
        long[] h = half(parts.get(k).sides, f);
        return new int[] {(int) h[0], (int) h[1], (int) h[2]};
    }

    private int[] slide(int k, int f) {
        int[] n = inward(k, f);
        int nn = dot(n, n);
        int gn = dot(pull, n);
        return new int[] {pull[0] * nn - n[0] * gn, pull[1] * nn - n[1] * gn, pull[2] * nn - n[2] * gn};
    }

    private static int dot(int[] p, int[] r) {
        return p[0] * r[0] + p[1] * r[1] + p[2] * r[2];
    }

    private static int[] cross(int[] p, int[] r) {
        return new int[] {p[1] * r[2] - p[2] * r[1], p[2] * r[0] - p[0] * r[2], p[0] * r[1] - p[1] * r[0]};
    }

    private int wholePoints(Part b) {
        int n = 0;
        for (int x = 0; x <= size[0]; x++) {
            for (int y = 0; y <= size[1]; y++) {
                for (int z = 0; z <= size[2]; z++) {
                    boolean inside = true;
                    for (int f : allFaces()) {
                        long[] h = half(b.sides, f);
                        inside &= h[0] * x + h[1] * y + h[2] * z + h[3] > 0;
                    }
                    n += inside ? 1 : 0;
                }
            }
        }
        return n;
    }

    private List<Integer> allFaces() {
        List<Integer> faces = new ArrayList<>();
        for (int f = 0; f < 12; f++) {
            if (f >= 6 || f < joints.size()) {
                faces.add(f);
            }
        }
        return faces;
    }

    /** The inside of a face, as h0 x + h1 y + h2 z + h3 above 0. */
    private long[] half(int sides, int f) {
        if (f < 6) {
            int[] j = joints.get(f);
            int s = (sides >> f & 1) == 1 ? 1 : -1;
            return new long[] {s * j[0], s * j[1], s * j[2], -s * j[3]};
        }
        long[] h = new long[4];
        int axis = (f - 6) / 2;
        h[axis] = f % 2 == 0 ? 1 : -1;
        h[3] = f % 2 == 0 ? 0 : size[axis];
        return h;
    }

    private void cut() {
        parts = new ArrayList<>();
        for (int s = 0; s < 1 << joints.size(); s++) {
            List<long[]> inside = new ArrayList<>();
            for (int f : allFaces()) {
                inside.add(half(s, f));
            }
            if (Inequalities.solvable(inside)) {
                parts.add(makePart(s));
            }
        }
    }

    private Part makePart(int s) {
        Part b = new Part();
        b.sides = s;
        for (int f : allFaces()) {
            List<long[]> others = new ArrayList<>();
            for (int g : allFaces()) {
                if (g != f) {
                    others.add(half(s, g));
                }
            }
            if (Inequalities.solvableOn(half(s, f), others)) {
                b.faces.add(f);
            }
        }
        for (int f : b.faces) {
            for (int g : b.faces) {
                for (int h : b.faces) {
                    if (f < g && g < h) {
                        addCorner(b, half(s, f), half(s, g), half(s, h));
                    }
                }
            }
        }
        return b;
    }

    private void addCorner(Part b, long[] f, long[] g, long[] h) {
        BigInteger q = BigInteger.valueOf(det(f, g, h, 0, 1, 2));
        if (q.signum() == 0) {
            return;
        }
        BigInteger x = BigInteger.valueOf(-det(f, g, h, 3, 1, 2));
        BigInteger y = BigInteger.valueOf(-det(f, g, h, 0, 3, 2));
        BigInteger z = BigInteger.valueOf(-det(f, g, h, 0, 1, 3));
        Corner c = Corner.of(x, y, z, q);
        for (int face : allFaces()) {
            long[] n = half(b.sides, face);
            long v = n[0] * c.x.longValueExact() + n[1] * c.y.longValueExact()
                    + n[2] * c.z.longValueExact() + n[3] * c.q.longValueExact();
            if (v < 0) {
                return;
            }
        }
        b.corners.add(c);
    }

    private static long det(long[] f, long[] g, long[] h, int i, int j, int k) {
        return f[i] * (g[j] * h[k] - g[k] * h[j]) - f[j] * (g[i] * h[k] - g[k] * h[i])
                + f[k] * (g[i] * h[j] - g[j] * h[i]);
    }

    /** Sets of p x + q y + r z + s above 0. */
    private static final class Inequalities {
        static boolean solvable(List<long[]> all) {
            List<long[]> left = all;
            for (int v = 0; v < 3; v++) {
                left = tightest(without(left, v));
            }
            return left.stream().allMatch(c -> c[3] > 0);
        }

        static boolean solvableOn(long[] plane, List<long[]> all) {
            int v = plane[0] != 0 ? 0 : plane[1] != 0 ? 1 : 2;
            long by = Math.abs(plane[v]);
            List<long[]> left = new ArrayList<>();
            for (long[] c : all) {
                long[] r = new long[4];
                for (int i = 0; i < 4; i++) {
                    r[i] = by * c[i] - c[v] * Long.signum(plane[v]) * plane[i];
                }
                left.add(r);
            }
            return solvable(left);
        }

        private static List<long[]> without(List<long[]> all, int v) {
            List<long[]> left = new ArrayList<>();
            for (long[] p : all) {
                if (p[v] == 0) {
                    left.add(p);
                }
                for (long[] r : all) {
                    if (p[v] > 0 && r[v] < 0) {
                        long[] sum = new long[4];
                        for (int i = 0; i < 4; i++) {
                            sum[i] = Math.addExact(Math.multiplyExact(p[i], -r[v]), Math.multiplyExact(r[i], p[v]));
                        }
                        left.add(sum);
                    }
                }
            }
            return left;
        }

        /** Of those that lean the same way only the one that allows least. */
        private static List<long[]> tightest(List<long[]> all) {
            TreeMap<String, long[]> best = new TreeMap<>();
            for (long[] c : all) {
                long by = gcd(gcd(c[0], c[1]), c[2]);
                if (by == 0) {
                    best.merge(c[3] > 0 ? "true" : "false", c, (p, r) -> p);
                    continue;
                }
                String key = c[0] / by + " " + c[1] / by + " " + c[2] / by;
                best.merge(key, c, (p, r) -> Math.multiplyExact(p[3], gcd(gcd(r[0], r[1]), r[2]))
                        <= Math.multiplyExact(r[3], gcd(gcd(p[0], p[1]), p[2])) ? p : r);
            }
            List<long[]> left = new ArrayList<>();
            for (long[] c : best.values()) {
                long by = gcd(gcd(c[0], c[1]), gcd(c[2], c[3]));
                left.add(by == 0 ? c : new long[] {c[0] / by, c[1] / by, c[2] / by, c[3] / by});
            }
            return left;
        }

        private static long gcd(long p, long r) {
            return r == 0 ? Math.abs(p) : gcd(r, p % r);
        }
    }
}
