import java.math.BigInteger;
import java.util.ArrayList;
import java.util.Arrays;
import java.util.List;

/** Answers from the document's words alone: by trying all that there is, with no care for speed. */
final class Oracle {
    final int n;
    final long[] x;
    final long[] y;

    Oracle(int[] xy) {
        n = xy.length / 2;
        x = new long[n];
        y = new long[n];
        for (int i = 0; i < n; i++) {
            x[i] = xy[2 * i];
            y[i] = xy[2 * i + 1];
        }
    }

    // ---- faults

    /** The fault, with the corner or the two edges. */
    int[] fault() {
        if (n < 3) {
            return new int[] {1, -1, -1};
        }
        for (int i = 0; i < n; i++) {
            int a = (i + n - 1) % n;
            int b = (i + 1) % n;
            if ((x[i] - x[a]) * (y[b] - y[a]) == (y[i] - y[a]) * (x[b] - x[a])) {
                return new int[] {2, i, -1};
            }
        }
        for (int i = 0; i < n; i++) {
            for (int j = i + 1; j < n; j++) {
                boolean follow = (i + 1) % n == j || (j + 1) % n == i;
                if (!follow && touch(i, (i + 1) % n, j, (j + 1) % n, false)) {
                    return new int[] {3, i, j};
                }
            }
        }
        return new int[] {0, -1, -1};
    }

    /** Whether a to b and c to d touch, by solving for where; if open, not at a and b themselves. */
    boolean touch(int a, int b, int c, int d, boolean open) {
        long ux = x[b] - x[a];
        long uy = y[b] - y[a];
        long vx = x[d] - x[c];
        long vy = y[d] - y[c];
        long wx = x[c] - x[a];
        long wy = y[c] - y[a];
        long den = ux * vy - uy * vx;
        if (den != 0) {
            long s = (wx * vy - wy * vx) * Long.signum(den);
            long t = (wx * uy - wy * ux) * Long.signum(den);
            den = Math.abs(den);
            return t >= 0 && t <= den && (open ? s > 0 && s < den : s >= 0 && s <= den);
        }
        if (ux * wy != uy * wx) {
            return false;
        }
        long length = ux * ux + uy * uy;
        long from = ux * wx + uy * wy;
        long to = ux * (x[d] - x[a]) + uy * (y[d] - y[a]);
        long low = Math.max(0, Math.min(from, to));
        long high = Math.min(length, Math.max(from, to));
        return open ? low < high || low == high && low > 0 && low < length : low <= high;
    }

    // ---- measures

    /** By winding round a point, all of it scaled. */
    int in(long px, long py, int scale) {
        int winding = 0;
        for (int i = 0; i < n; i++) {
            int j = (i + 1) % n;
            long ax = x[i] * scale;
            long ay = y[i] * scale;
            long bx = x[j] * scale;
            long by = y[j] * scale;
            long left = (bx - ax) * (py - ay) - (by - ay) * (px - ax);
            boolean between = Math.min(ax, bx) <= px && px <= Math.max(ax, bx)
                    && Math.min(ay, by) <= py && py <= Math.max(ay, by);
            if (left == 0 && between) {
                return 1;
            }
            if (ay <= py && by > py && left > 0) {
                winding++;
            } else if (ay > py && by <= py && left < 0) {
                winding--;
            }
        }
        return winding == 0 ? 0 : 2;
    }

    /** Points outside, on and inside, counted one by one. */
    int[] points() {
        int[] found = new int[3];
        long lowX = Arrays.stream(x).min().getAsLong();
        long highX = Arrays.stream(x).max().getAsLong();
        long lowY = Arrays.stream(y).min().getAsLong();
        long highY = Arrays.stream(y).max().getAsLong();
        for (long px = lowX; px <= highX; px++) {
            for (long py = lowY; py <= highY; py++) {
                found[in(px, py, 1)]++;
            }
        }
        return found;
    }

    private long fan(int i) {
        return (x[i] - x[0]) * (y[i + 1] - y[0]) - (y[i] - y[0]) * (x[i + 1] - x[0]);
    }

    long area() {
        long sum = 0;
        for (int i = 1; i + 1 < n; i++) {
            sum += fan(i);
        }
        return sum;
    }

    /** The centroid as the weighed mean of those of a fan's triangles. */
    BigInteger[] centroid(int axis) {
        long[] v = axis == 0 ? x : y;
        BigInteger above = BigInteger.ZERO;
        for (int i = 1; i + 1 < n; i++) {
            above = above.add(BigInteger.valueOf(v[0] + v[i] + v[i + 1]).multiply(BigInteger.valueOf(fan(i))));
        }
        BigInteger below = BigInteger.valueOf(3 * area());
        BigInteger common = above.gcd(below);
        if (below.signum() < 0) {
            common = common.negate();
        }
        return new BigInteger[] {above.divide(common), below.divide(common)};
    }

    // ---- sight

    int sees(int i, int j) {
        if ((i + 1) % n == j || (j + 1) % n == i) {
            return 2;
        }
        for (int e = 0; e < n; e++) {
            if (touch(i, j, e, (e + 1) % n, true)) {
                return 0;
            }
        }
        return in(x[i] + x[j], y[i] + y[j], 2) == 2 ? 1 : 0;
    }

    int[] way(int from, int to) {
        for (int length = 0; ; length++) {
            int[] way = new int[length + 1];
            way[0] = from;
            if (completes(way, 1, to)) {
                return way;
            }
        }
    }

    private boolean completes(int[] way, int known, int to) {
        if (known == way.length) {
            return way[known - 1] == to;
        }
        for (int next = 0; next < n; next++) {
            if (next != way[known - 1] && sees(way[known - 1], next) > 0) {
                way[known] = next;
                if (completes(way, known + 1, to)) {
                    return true;
                }
            }
        }
        return false;
    }

    // ---- triangles

    int triangulations;
    long best;
    List<int[]> triangles;
    List<int[]> diagonals;
    int[] stays;
    int parts;

    /** Tries all sets of diagonals that do not cross, and keeps the best. */
    void cut() {
        List<int[]> all = new ArrayList<>();
        for (int i = 0; i < n; i++) {
            for (int j = i + 1; j < n; j++) {
                if (sees(i, j) == 1) {
                    all.add(new int[] {i, j});
                }
            }
        }
        triangulations = 0;
        triangles = null;
        choose(all, 0, new ArrayList<>());
        merge();
    }

    private void choose(List<int[]> all, int next, List<int[]> chosen) {
        if (chosen.size() == n - 3) {
            triangulations++;
            compare(chosen);
            return;
        }
        for (int d = next; d < all.size(); d++) {
            boolean free = true;
            for (int[] other : chosen) {
                free &= !cross(all.get(d), other);
            }
            if (free) {
                chosen.add(all.get(d));
                choose(all, d + 1, chosen);
                chosen.remove(chosen.size() - 1);
            }
        }
    }

    private boolean cross(int[] one, int[] other) {
        boolean commonEnd = one[0] == other[0] || one[0] == other[1] || one[1] == other[0] || one[1] == other[1];
        return !commonEnd && touch(one[0], one[1], other[0], other[1], false);
    }

    private void compare(List<int[]> chosen) {
        long sum = 0;
        for (int[] d : chosen) {
            sum += square(d[0], d[1]);
        }
        if (triangles != null && sum > best) {
            return;
        }
        List<int[]> numbered = new ArrayList<>();
        number(chosen, 0, n - 1, numbered);
        if (triangles == null || sum < best || isBefore(numbered, triangles)) {
            best = sum;
            triangles = numbered;
            diagonals = new ArrayList<>(chosen);
        }
    }

    private static boolean isBefore(List<int[]> one, List<int[]> other) {
        for (int t = 0; t < one.size(); t++) {
            if (one.get(t)[1] != other.get(t)[1]) {
                return one.get(t)[1] < other.get(t)[1];
            }
        }
        return false;
    }

    private void number(List<int[]> chosen, int i, int j, List<int[]> numbered) {
        if (j - i < 2) {
            return;
        }
        for (int k = i + 1; k < j; k++) {
            if (drawn(chosen, i, k) && drawn(chosen, k, j)) {
                numbered.add(new int[] {i, k, j});
                number(chosen, i, k, numbered);
                number(chosen, k, j, numbered);
                return;
            }
        }
        throw new IllegalStateException("no third corner");
    }

    private boolean drawn(List<int[]> chosen, int i, int j) {
        if (sees(i, j) == 2) {
            return true;
        }
        for (int[] d : chosen) {
            if (d[0] == Math.min(i, j) && d[1] == Math.max(i, j)) {
                return true;
            }
        }
        return false;
    }

    private long square(int i, int j) {
        return (x[i] - x[j]) * (x[i] - x[j]) + (y[i] - y[j]) * (y[i] - y[j]);
    }

    private void merge() {
        List<int[]> left = new ArrayList<>(diagonals);
        stays = new int[diagonals.size()];
        for (int d = 0; d < diagonals.size(); d++) {
            int[] one = diagonals.get(d);
            left.remove(one);
            if (!atMostStraight(left, one[0], one[1]) || !atMostStraight(left, one[1], one[0])) {
                left.add(one);
                stays[d] = 1;
            }
        }
        parts = left.size() + 1;
    }

    /** Measures, in degrees, from the diagonal to what is left on either side: within the angle that comes. */
    private boolean atMostStraight(List<int[]> left, int corner, int end) {
        double toLeft = 7;
        double toRight = 7;
        double at = direction(corner, end);
        for (int other = 0; other < n; other++) {
            if (other != corner && drawn(left, corner, other)) {
                double turned = direction(corner, other) - at;
                double counter = turned < 0 ? turned + 2 * Math.PI : turned;
                toLeft = Math.min(toLeft, counter);
                toRight = Math.min(toRight, 2 * Math.PI - counter);
            }
        }
        return toLeft + toRight < Math.PI + 1e-9;
    }

    private double direction(int from, int to) {
        return Math.atan2(y[to] - y[from], x[to] - x[from]);
    }

    // ---- sameness

    /** In how many ways it comes onto the other: turned (0), turned over (1); the least corners (2, 3). */
    int[] onto(Oracle q) {
        int[] found = {0, 0, -1, -1};
        if (n != q.n) {
            return found;
        }
        for (int start = 0; start < n; start++) {
            for (int step = -1; step <= 1; step += 2) {
                if (isRigid(q, start, step)) {
                    int over = isOver(q, start, step) ? 1 : 0;
                    found[over]++;
                    found[2 + over] = found[2 + over] == -1 ? start : found[2 + over];
                }
            }
        }
        return found;
    }

    private int image(int i, int start, int step) {
        return Math.floorMod(start + step * i, n);
    }

    private boolean isRigid(Oracle q, int start, int step) {
        for (int i = 0; i < n; i++) {
            for (int j = 0; j < i; j++) {
                if (square(i, j) != q.square(image(i, start, step), image(j, start, step))) {
                    return false;
                }
            }
        }
        return true;
    }

    private boolean isOver(Oracle q, int start, int step) {
        return Long.signum(fan(1)) != Long.signum(q.corner(start, image(1, start, step), image(2, start, step)));
    }

    private long corner(int a, int b, int c) {
        return (x[b] - x[a]) * (y[c] - y[a]) - (y[b] - y[a]) * (x[c] - x[a]);
    }
}
