/**
 * Polygons with corners in whole numbers: their faults, measures, sight, triangles and sameness.
 * What each call answers is told by the document (DOC.md), promise by promise.
 */
public final class PolyCuts {
    public static final int NONE = -1, UNKNOWN = -2, OUTSIDE = -3, ROOM = -4;

    private static final int MOST_POLYGONS = 8;
    private static final int MOST_CORNERS = 14;
    private static final int FARTHEST_CORNER = 1000;
    private static final int FARTHEST_POINT = 3000;

    private static final int NO_FAULT = 0, TOO_FEW = 1, FLAT_CORNER = 2, MEETING_EDGES = 3;
    private static final int BEFORE_FAULTS = -10;

    private static final int APART = 0, SEEING = 1, NEIGHBOURS = 2;
    private static final int OUT = 0, ON_EDGE = 1, INSIDE = 2;
    private static final int TURNED = 1, TURNED_OVER = -1;
    private static final int NEITHER = 0, SAME = 1, OVER = 2;

    /** Euclid's rule ends far earlier for any two numbers of 63 bits. */
    private static final int MOST_DIVISIONS = 100;

    private final Corners row;
    private final Check check;
    private final Cutter cutter;
    private final Walk walk;
    private final Shape[] shapes;
    private int shapeCount;

    public PolyCuts() {
        row = new Corners();
        check = new Check();
        cutter = new Cutter();
        walk = new Walk();
        shapes = new Shape[MOST_POLYGONS];
        for (int p = 0; p < MOST_POLYGONS; p++) {
            shapes[p] = new Shape();
        }
        shapeCount = 0;
    }

    public int corner(int x, int y) {
        if (!isWithin(x, FARTHEST_CORNER) || !isWithin(y, FARTHEST_CORNER)) {
            return OUTSIDE;
        }
        if (row.isFull()) {
            return ROOM;
        }
        row.append(x, y);
        return row.size;
    }

    public int polygon() {
        if (shapeCount >= MOST_POLYGONS) {
            return ROOM;
        }
        check.examine(row);
        if (check.kind == NO_FAULT) {
            Shape shape = shapes[shapeCount];
            shape.become(row);
            shape.lookAround();
            cutter.cut(shape);
            shapeCount++;
        }
        row.clear();
        return check.kind == NO_FAULT ? shapeCount - 1 : BEFORE_FAULTS - check.kind;
    }

    public int fault(int what) {
        if (what == 0) {
            return check.first;
        }
        return what == 1 ? check.second : OUTSIDE;
    }

    public int drop() {
        if (shapeCount == 0) {
            return UNKNOWN;
        }
        shapeCount--;
        return shapeCount;
    }

    public int count(int p) {
        if (p == NONE) {
            return shapeCount;
        }
        Shape shape = shapeOf(p);
        return shape == null ? UNKNOWN : shape.corners.size;
    }

    public int at(int p, int corner, int axis) {
        Shape shape = shapeOf(p);
        if (shape == null || !shape.corners.has(corner)) {
            return UNKNOWN;
        }
        if (!isZeroOrOne(axis)) {
            return OUTSIDE;
        }
        return shape.corners.along(axis)[corner];
    }

    public int area(int p) {
        Shape shape = shapeOf(p);
        return shape == null ? 0 : shape.doubleArea;
    }

    public long centroid(int p, int axis, int side) {
        Shape shape = shapeOf(p);
        if (shape == null || !isZeroOrOne(axis) || !isZeroOrOne(side)) {
            return 0;
        }
        long above = shape.centroidMoment(axis);
        long below = 3L * shape.doubleArea;
        long divisor = greatestDivisor(above, below);
        if (divisor == 0) {
            return 0;
        }
        // A polygon that goes right has both of them negated.
        long signed = below < 0 ? -divisor : divisor;
        return (side == 0 ? above : below) / signed;
    }

    public int points(int p, int what) {
        Shape shape = shapeOf(p);
        if (shape == null) {
            return UNKNOWN;
        }
        if (!isZeroOrOne(what)) {
            return OUTSIDE;
        }
        int onEdges = shape.pointsOnEdges();
        // Pick's theorem: twice the area is twice the points inside, and those on edges, less 2.
        return what == 0 ? onEdges : (Math.abs(shape.doubleArea) - onEdges + 2) / 2;
    }

    public int in(int p, int x, int y) {
        Shape shape = shapeOf(p);
        if (shape == null) {
            return UNKNOWN;
        }
        if (!isWithin(x, FARTHEST_POINT) || !isWithin(y, FARTHEST_POINT)) {
            return OUTSIDE;
        }
        return shape.placeOf(x, y, 1);
    }

    public int sees(int p, int i, int j) {
        Shape shape = shapeOf(p);
        if (shape == null || !shape.corners.has(i) || !shape.corners.has(j)) {
            return UNKNOWN;
        }
        return i == j ? OUTSIDE : shape.sight[i][j];
    }

    public int way(int p, int from, int to) {
        Shape shape = shapeOf(p);
        if (shape == null || !shape.corners.has(from) || !shape.corners.has(to)) {
            return UNKNOWN;
        }
        walk.measure(shape, to);
        return walk.stepsLeft[from];
    }

    public int step(int p, int from, int to, int k) {
        Shape shape = shapeOf(p);
        if (shape == null || !shape.corners.has(from) || !shape.corners.has(to)) {
            return UNKNOWN;
        }
        walk.measure(shape, to);
        return walk.cornerAfter(shape, from, k);
    }

    public int triangulations(int p) {
        Shape shape = shapeOf(p);
        return shape == null ? UNKNOWN : shape.triangulationCount;
    }

    public int best(int p) {
        Shape shape = shapeOf(p);
        return shape == null ? UNKNOWN : shape.leastSum;
    }

    public int triangle(int p, int t, int what) {
        Shape shape = shapeOf(p);
        if (shape == null) {
            return UNKNOWN;
        }
        if (what < 0 || what > 2) {
            return OUTSIDE;
        }
        if (t < 0 || t >= shape.triangleCount()) {
            return NONE;
        }
        if (what == 1) {
            return shape.triangleThird[t];
        }
        return what == 0 ? shape.triangleFrom[t] : shape.triangleTo[t];
    }

    public int diagonal(int p, int d, int what) {
        Shape shape = shapeOf(p);
        if (shape == null) {
            return UNKNOWN;
        }
        if (what < 0 || what > 2) {
            return OUTSIDE;
        }
        if (d < 0 || d >= shape.diagonalCount()) {
            return NONE;
        }
        if (what == 2) {
            return shape.diagonalStays[d];
        }
        return what == 0 ? shape.diagonalLesser[d] : shape.diagonalGreater[d];
    }

    public int parts(int p) {
        Shape shape = shapeOf(p);
        return shape == null ? UNKNOWN : shape.partCount;
    }

    public int same(int p, int q) {
        Shape shape = shapeOf(p);
        Shape other = shapeOf(q);
        if (shape == null || other == null) {
            return UNKNOWN;
        }
        if (shape.leastStart(other, TURNED) != NONE) {
            return SAME;
        }
        return shape.leastStart(other, TURNED_OVER) != NONE ? OVER : NEITHER;
    }

    public int onto(int p, int q) {
        Shape shape = shapeOf(p);
        Shape other = shapeOf(q);
        if (shape == null || other == null) {
            return UNKNOWN;
        }
        int start = shape.leastStart(other, TURNED);
        return start != NONE ? start : shape.leastStart(other, TURNED_OVER);
    }

    public int symmetries(int p, int how) {
        Shape shape = shapeOf(p);
        if (shape == null) {
            return UNKNOWN;
        }
        if (!isZeroOrOne(how)) {
            return OUTSIDE;
        }
        int turns = shape.startCount(TURNED);
        return how == 0 ? turns : turns + shape.startCount(TURNED_OVER);
    }

    private Shape shapeOf(int p) {
        return p >= 0 && p < shapeCount ? shapes[p] : null;
    }

    private static boolean isWithin(int value, int farthest) {
        return value >= -farthest && value <= farthest;
    }

    private static boolean isZeroOrOne(int value) {
        return value == 0 || value == 1;
    }

    private static long greatestDivisor(long one, long other) {
        long a = Math.abs(one);
        long b = Math.abs(other);
        for (int i = 0; i < MOST_DIVISIONS && b != 0; i++) {
            long rest = a % b;
            a = b;
            b = rest;
        }
        return a;
    }

    /** Corners in their order, the last one followed by corner 0, with what their places tell. */
    private static final class Corners {
        final int[] x = new int[MOST_CORNERS];
        final int[] y = new int[MOST_CORNERS];
        int size = 0;

        boolean isFull() {
            return size >= MOST_CORNERS;
        }

        boolean has(int corner) {
            return corner >= 0 && corner < size;
        }

        void append(int newX, int newY) {
            if (!isFull()) {
                x[size] = newX;
                y[size] = newY;
                size++;
            }
        }

        void clear() {
            size = 0;
        }

        void copyOf(Corners other) {
            size = other.size;
            System.arraycopy(other.x, 0, x, 0, size);
            System.arraycopy(other.y, 0, y, 0, size);
        }

        int[] along(int axis) {
            return axis == 0 ? x : y;
        }

        int after(int corner) {
            return corner + 1 < size ? corner + 1 : 0;
        }

        int before(int corner) {
            return corner > 0 ? corner - 1 : size - 1;
        }

        /** Above 0 if who goes from a to b turns left to reach c, 0 if the three lie on one line. */
        int turn(int a, int b, int c) {
            return (x[b] - x[a]) * (y[c] - y[a]) - (y[b] - y[a]) * (x[c] - x[a]);
        }

        /** How far the step from b to c goes on in the direction of the step from a to b. */
        int advance(int a, int b, int c) {
            return (x[b] - x[a]) * (x[c] - x[b]) + (y[b] - y[a]) * (y[c] - y[b]);
        }

        int squaredLength(int a, int b) {
            int dx = x[b] - x[a];
            int dy = y[b] - y[a];
            return dx * dx + dy * dy;
        }

        /** Whether the segments from a to b and from c to d, ends included, have a point in common. */
        boolean meet(int a, int b, int c, int d) {
            return rangesMeet(x, a, b, c, d) && rangesMeet(y, a, b, c, d)
                    && straddles(a, b, c, d) && straddles(c, d, a, b);
        }

        private static boolean rangesMeet(int[] v, int a, int b, int c, int d) {
            return Math.max(v[a], v[b]) >= Math.min(v[c], v[d])
                    && Math.max(v[c], v[d]) >= Math.min(v[a], v[b]);
        }

        /** Whether the line through a and b has c and d not both on the same side. */
        private boolean straddles(int a, int b, int c, int d) {
            return (long) turn(a, b, c) * turn(a, b, d) <= 0;
        }
    }

    /** The first fault that keeps a row from being a polygon. */
    private static final class Check {
        int kind = NO_FAULT;
        int first = NONE;
        int second = NONE;

        void examine(Corners row) {
            note(NO_FAULT, NONE, NONE);
            if (row.size < 3) {
                note(TOO_FEW, NONE, NONE);
                return;
            }
            findFlatCorner(row);
            if (kind == NO_FAULT) {
                findMeetingEdges(row);
            }
        }

        private void note(int newKind, int newFirst, int newSecond) {
            kind = newKind;
            first = newFirst;
            second = newSecond;
        }

        private void findFlatCorner(Corners row) {
            for (int i = 0; i < row.size; i++) {
                if (row.turn(row.before(i), i, row.after(i)) == 0) {
                    note(FLAT_CORNER, i, NONE);
                    return;
                }
            }
        }

        private void findMeetingEdges(Corners row) {
            for (int i = 0; i < row.size; i++) {
                // Edge i + 1 follows edge i, so the first that may be at fault is the one behind.
                for (int j = i + 2; j < row.size; j++) {
                    if (row.after(j) != i && row.meet(i, row.after(i), j, row.after(j))) {
                        note(MEETING_EDGES, i, j);
                        return;
                    }
                }
            }
        }
    }

    /** A polygon, with all that is found out about it once when it is made. */
    private static final class Shape {
        final Corners corners = new Corners();
        final int[][] sight = new int[MOST_CORNERS][MOST_CORNERS];
        int doubleArea = 0;

        int triangulationCount = 0;
        int leastSum = 0;
        int partCount = 0;
        final int[] triangleFrom = new int[MOST_CORNERS];
        final int[] triangleThird = new int[MOST_CORNERS];
        final int[] triangleTo = new int[MOST_CORNERS];
        final int[] diagonalLesser = new int[MOST_CORNERS];
        final int[] diagonalGreater = new int[MOST_CORNERS];
        final int[] diagonalStays = new int[MOST_CORNERS];

        void become(Corners row) {
            corners.copyOf(row);
            doubleArea = 0;
            for (int i = 0; i < corners.size; i++) {
                doubleArea += crossOfEdge(i);
            }
        }

        void lookAround() {
            for (int i = 0; i < corners.size; i++) {
                sight[i][i] = APART;
                for (int j = 0; j < i; j++) {
                    sight[i][j] = look(i, j);
                    sight[j][i] = sight[i][j];
                }
            }
        }

        int triangleCount() {
            return corners.size - 2;
        }

        int diagonalCount() {
            return corners.size - 3;
        }

        /** 1 if the polygon goes left, -1 if it goes right. */
        int hand() {
            return doubleArea > 0 ? 1 : -1;
        }

        /** The centroid along an axis times three times the double area. */
        long centroidMoment(int axis) {
            int[] v = corners.along(axis);
            long moment = 0;
            for (int i = 0; i < corners.size; i++) {
                moment += (long) (v[i] + v[corners.after(i)]) * crossOfEdge(i);
            }
            return moment;
        }

        int pointsOnEdges() {
            int found = 0;
            for (int i = 0; i < corners.size; i++) {
                int j = corners.after(i);
                found += (int) greatestDivisor(corners.x[j] - corners.x[i], corners.y[j] - corners.y[i]);
            }
            return found;
        }

        /** Where a point lies when all corners are first moved away from 0, 0 by the scale. */
        int placeOf(int px, int py, int scale) {
            boolean inside = false;
            for (int i = 0; i < corners.size; i++) {
                int j = corners.after(i);
                int ax = corners.x[i] * scale - px;
                int ay = corners.y[i] * scale - py;
                int bx = corners.x[j] * scale - px;
                int by = corners.y[j] * scale - py;
                int side = ax * by - ay * bx;
                if (side == 0 && ax * bx <= 0 && ay * by <= 0) {
                    return ON_EDGE;
                }
                // An edge counts with its lower end alone, so that a ray through a corner counts once.
                boolean crossesHeight = (ay > 0) != (by > 0);
                if (crossesHeight && (side > 0) == (by > ay)) {
                    inside = !inside;
                }
            }
            return inside ? INSIDE : OUT;
        }

        /** The least corner of the other onto which corner 0 comes, NONE if the two never fit so. */
        int leastStart(Shape other, int how) {
            for (int start = 0; start < other.corners.size; start++) {
                if (fits(other, start, how)) {
                    return start;
                }
            }
            return NONE;
        }

        /** In how many ways it comes onto itself. */
        int startCount(int how) {
            int found = 0;
            for (int start = 0; start < corners.size; start++) {
                if (fits(this, start, how)) {
                    found++;
                }
            }
            return found;
        }

        private int crossOfEdge(int i) {
            int j = corners.after(i);
            return corners.x[i] * corners.y[j] - corners.y[i] * corners.x[j];
        }

        private int look(int i, int j) {
            if (corners.after(i) == j || corners.after(j) == i) {
                return NEIGHBOURS;
            }
            int middleX = corners.x[i] + corners.x[j];
            int middleY = corners.y[i] + corners.y[j];
            // With no edge in between all points between are where the middle is; twice as far it is whole.
            return isFree(i, j) && placeOf(middleX, middleY, 2) == INSIDE ? SEEING : APART;
        }

        /** Whether no edge but those of i and j themselves has a point of the segment between them. */
        private boolean isFree(int i, int j) {
            for (int a = 0; a < corners.size; a++) {
                int b = corners.after(a);
                boolean ownEdge = a == i || a == j || b == i || b == j;
                if (!ownEdge && corners.meet(i, j, a, b)) {
                    return false;
                }
            }
            return true;
        }

        /** Whether it comes onto the other, turned over or not, with corner 0 on the one named. */
        private boolean fits(Shape other, int start, int how) {
            Corners target = other.corners;
            if (corners.size != target.size) {
                return false;
            }
            // Turning over makes a polygon that goes left go right.
            boolean forward = hand() * how == other.hand();
            int j = start;
            for (int i = 0; i < corners.size; i++) {
                int next = forward ? target.after(j) : target.before(j);
                int last = forward ? target.before(j) : target.after(j);
                if (!fitsCorner(i, target, last, j, next, how)) {
                    return false;
                }
                j = next;
            }
            return true;
        }

        /** Edges as long, and angles as wide, make a whole that can be laid onto the other. */
        private boolean fitsCorner(int i, Corners target, int last, int j, int next, int how) {
            int before = corners.before(i);
            int after = corners.after(i);
            return corners.squaredLength(i, after) == target.squaredLength(j, next)
                    && corners.turn(before, i, after) == how * target.turn(last, j, next)
                    && corners.advance(before, i, after) == target.advance(last, j, next);
        }
    }

    /** Finds the triangulations of a shape, the best of them, and its convex parts. */
    private static final class Cutter {
        /** Of the corners from i to j, as a polygon of their own: 0 ways if i and j are apart. */
        private final int[][] ways = new int[MOST_CORNERS][MOST_CORNERS];
        /** The least sum, the diagonal from i to j included. */
        private final int[][] sum = new int[MOST_CORNERS][MOST_CORNERS];
        private final int[][] third = new int[MOST_CORNERS][MOST_CORNERS];
        /** 1 for edges and for diagonals of the best that have not gone. */
        private final int[][] joined = new int[MOST_CORNERS][MOST_CORNERS];

        void cut(Shape shape) {
            int last = shape.corners.size - 1;
            weighSpans(shape);
            shape.triangulationCount = ways[0][last];
            shape.leastSum = sum[0][last];
            nameTriangles(shape);
            nameDiagonals(shape);
            merge(shape);
        }

        private void weighSpans(Shape shape) {
            int size = shape.corners.size;
            for (int i = 0; i + 1 < size; i++) {
                ways[i][i + 1] = 1;
                sum[i][i + 1] = 0;
            }
            for (int width = 2; width < size; width++) {
                for (int i = 0; i + width < size; i++) {
                    weighSpan(shape, i, i + width);
                }
            }
        }

        private void weighSpan(Shape shape, int i, int j) {
            ways[i][j] = 0;
            sum[i][j] = 0;
            third[i][j] = i + 1;
            if (shape.sight[i][j] == APART) {
                return;
            }
            for (int k = i + 1; k < j; k++) {
                int both = ways[i][k] * ways[k][j];
                int total = sum[i][k] + sum[k][j];
                if (both > 0 && (ways[i][j] == 0 || total < sum[i][j])) {
                    sum[i][j] = total;
                    third[i][j] = k;
                }
                ways[i][j] += both;
            }
            if (shape.sight[i][j] == SEEING) {
                sum[i][j] += shape.corners.squaredLength(i, j);
            }
        }

        private void nameTriangles(Shape shape) {
            shape.triangleFrom[0] = 0;
            shape.triangleTo[0] = shape.corners.size - 1;
            for (int t = 0; t < shape.triangleCount(); t++) {
                int i = shape.triangleFrom[t];
                int j = shape.triangleTo[t];
                int k = third[i][j];
                shape.triangleThird[t] = k;
                if (k - i > 1) {
                    nameSpan(shape, t + 1, i, k);
                }
                if (j - k > 1) {
                    // The corners from i to k part into k - i - 1 triangles, all numbered before.
                    nameSpan(shape, t + k - i, k, j);
                }
            }
        }

        private static void nameSpan(Shape shape, int t, int from, int to) {
            if (t > 0 && t < shape.triangleCount()) {
                shape.triangleFrom[t] = from;
                shape.triangleTo[t] = to;
            }
        }

        private void nameDiagonals(Shape shape) {
            int size = shape.corners.size;
            for (int i = 0; i < size; i++) {
                for (int j = 0; j < size; j++) {
                    joined[i][j] = shape.sight[i][j] == NEIGHBOURS ? 1 : 0;
                }
            }
            // Each triangle but the first one hangs on a diagonal of its own.
            for (int t = 1; t < shape.triangleCount(); t++) {
                join(shape.triangleFrom[t], shape.triangleTo[t], 1);
            }
            int d = 0;
            for (int i = 0; i < size; i++) {
                for (int j = i + 1; j < size; j++) {
                    boolean isDiagonal = joined[i][j] == 1 && shape.sight[i][j] == SEEING;
                    if (isDiagonal && d < shape.diagonalCount()) {
                        shape.diagonalLesser[d] = i;
                        shape.diagonalGreater[d] = j;
                        d++;
                    }
                }
            }
        }

        private void join(int i, int j, int value) {
            joined[i][j] = value;
            joined[j][i] = value;
        }

        private void merge(Shape shape) {
            shape.partCount = 1;
            for (int d = 0; d < shape.diagonalCount(); d++) {
                int i = shape.diagonalLesser[d];
                int j = shape.diagonalGreater[d];
                if (isConvexWithout(shape, i, j) && isConvexWithout(shape, j, i)) {
                    join(i, j, 0);
                    shape.diagonalStays[d] = 0;
                } else {
                    shape.diagonalStays[d] = 1;
                    shape.partCount++;
                }
            }
        }

        /** Whether the angle at a corner is at most straight when its diagonal to the end goes. */
        private boolean isConvexWithout(Shape shape, int corner, int end) {
            int before = joinedBefore(shape.corners, corner, end);
            int after = joinedAfter(shape.corners, corner, end);
            // The angle is never none nor full, so that three on one line make a straight one.
            return shape.corners.turn(corner, before, after) * shape.hand() >= 0;
        }

        private int joinedBefore(Corners corners, int corner, int end) {
            int i = corners.before(end);
            for (int tries = 0; tries < corners.size && joined[corner][i] == 0; tries++) {
                i = corners.before(i);
            }
            return i;
        }

        private int joinedAfter(Corners corners, int corner, int end) {
            int i = corners.after(end);
            for (int tries = 0; tries < corners.size && joined[corner][i] == 0; tries++) {
                i = corners.after(i);
            }
            return i;
        }
    }

    /** Ways with the fewest steps to one corner of a shape. */
    private static final class Walk {
        final int[] stepsLeft = new int[MOST_CORNERS];

        void measure(Shape shape, int goal) {
            int size = shape.corners.size;
            for (int i = 0; i < size; i++) {
                stepsLeft[i] = NONE;
            }
            stepsLeft[goal] = 0;
            for (int steps = 1; steps < size; steps++) {
                for (int i = 0; i < size; i++) {
                    if (stepsLeft[i] == NONE && leastNext(shape, i, steps - 1) != NONE) {
                        stepsLeft[i] = steps;
                    }
                }
            }
        }

        /** Corner k of the way from the one named to the goal that was measured. */
        int cornerAfter(Shape shape, int from, int k) {
            if (k < 0 || k > stepsLeft[from]) {
                return NONE;
            }
            int here = from;
            for (int left = stepsLeft[from] - 1; left >= stepsLeft[from] - k; left--) {
                int next = leastNext(shape, here, left);
                if (next == NONE) {
                    return NONE;
                }
                here = next;
            }
            return here;
        }

        private int leastNext(Shape shape, int here, int left) {
            for (int j = 0; j < shape.corners.size; j++) {
                if (shape.sight[here][j] != APART && stepsLeft[j] == left) {
                    return j;
                }
            }
            return NONE;
        }
    }
}
