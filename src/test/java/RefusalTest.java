import java.util.ArrayList;
import java.util.List;

/**
 * "Calls answer, the first of these that fits: UNKNOWN (a POLYGON, a CORNER that there is not), OUTSIDE
 * (another number out of its bounds), ROOM; then nothing changes." Every refused call, in every state that
 * refuses it, and all that can be seen afterwards compared with an object that had no such call.
 */
public final class RefusalTest {
    private static final Due DUE = new Due();
    private static final int NONE = PolyCuts.NONE, UNKNOWN = PolyCuts.UNKNOWN;
    private static final int OUTSIDE = PolyCuts.OUTSIDE, ROOM = PolyCuts.ROOM;
    private static final int LEAST = Integer.MIN_VALUE, GREATEST = Integer.MAX_VALUE;

    private static final int[] ARROW = {0, 0, 4, 1, 8, 0, 4, 8};
    private static final int[] BOW_TIE = {0, 0, 4, 4, 4, 0, 0, 4};

    /** How many polygons, and corners in the row behind them: empty, few, full. */
    private static final int[][] STATES = {{0, 0}, {0, 2}, {0, 14}, {1, 0}, {3, 4}, {8, 0}, {8, 5}, {8, 14}};

    public static void main(String[] args) {
        DUE.says("the first of these that fits ..; then nothing changes");
        for (int[] state : STATES) {
            for (int set = 0; set < 6; set++) {
                PolyCuts refused = made(state[0], state[1]);
                refuse(refused, set, state[0], state[1]);
                List<Long> due = seen(made(state[0], state[1]), state[0]);
                String what = "polygons " + state[0] + ", row " + state[1] + ", set " + set;
                DUE.holds(what + ": nothing has changed", seen(refused, state[0]).equals(due));
            }
        }
        DUE.end();
    }

    /** Polygons of 4 corners, a fault of the latest polygon() if there is room for one, and a row. */
    private static PolyCuts made(int polygons, int inRow) {
        PolyCuts x = new PolyCuts();
        for (int p = 0; p < polygons; p++) {
            if (p == 7) {
                Due.make(x, BOW_TIE);
            }
            Due.make(x, ARROW);
        }
        if (polygons < 8) {
            Due.make(x, BOW_TIE);
        }
        int[] row = Due.convex(14);
        for (int i = 0; i < inRow; i++) {
            x.corner(row[2 * i], row[2 * i + 1]);
        }
        return x;
    }

    /** All that can be seen: the polygons, the fault, and the row by what comes of it. */
    private static List<Long> seen(PolyCuts x, int polygons) {
        List<Long> all = new ArrayList<>();
        all.add((long) x.fault(0));
        all.add((long) x.fault(1));
        all.add((long) x.count(NONE));
        for (int p = 0; p < polygons; p++) {
            addPolygon(all, x, p);
        }
        all.add((long) x.polygon());
        if (polygons == 8) {
            all.add((long) x.drop());
            all.add((long) x.polygon());
        }
        addPolygon(all, x, x.count(NONE) - 1);
        all.add((long) x.fault(0));
        all.add((long) x.corner(1, 1));
        return all;
    }

    private static void addPolygon(List<Long> all, PolyCuts x, int p) {
        all.add((long) x.count(p));
        all.add((long) x.area(p));
        all.add(x.centroid(p, 0, 0));
        all.add((long) x.best(p));
        all.add((long) x.parts(p));
        all.add((long) x.triangle(p, 0, 1));
        all.add((long) x.way(p, 0, 2));
        all.add((long) x.sees(p, 1, 3));
        for (int i = 0; i < x.count(p); i++) {
            all.add((long) x.at(p, i, 0));
            all.add((long) x.at(p, i, 1));
        }
    }

    private static void refuse(PolyCuts x, int set, int polygons, int inRow) {
        int[] absent = {polygons, -2, LEAST, GREATEST};
        switch (set) {
            case 0:
                refuseBuilding(x, polygons, inRow);
                break;
            case 1:
                for (int p : absent) {
                    refusePolygon(x, p);
                }
                refusePolygon(x, NONE);
                break;
            case 2:
                for (int p : absent) {
                    unknownGoesFirst(x, p);
                }
                break;
            case 3:
                for (int corner : new int[] {4, -1, LEAST, GREATEST}) {
                    refuseCorner(x, polygons - 1, corner);
                }
                break;
            case 4:
                for (int number : new int[] {-1, 3, LEAST, GREATEST}) {
                    refuseNumber(x, polygons - 1, number);
                }
                break;
            default:
                refusePairs(x, polygons);
                break;
        }
    }

    private static void refuseBuilding(PolyCuts x, int polygons, int inRow) {
        for (int far : new int[] {-1001, 1001, LEAST, GREATEST}) {
            DUE.is("corner(" + far + ", 0)", x.corner(far, 0), OUTSIDE);
            DUE.is("corner(0, " + far + ")", x.corner(0, far), OUTSIDE);
            DUE.is("fault(" + far + ")", x.fault(far), OUTSIDE);
        }
        if (inRow == 14) {
            DUE.is("corner() of a full row", x.corner(0, 0), ROOM);
        }
        if (polygons == 8) {
            DUE.is("polygon() of a full object", x.polygon(), ROOM);
        }
        if (polygons == 0) {
            DUE.is("drop() of none", x.drop(), UNKNOWN);
        }
    }

    private static void refusePolygon(PolyCuts x, int p) {
        if (p != NONE) {
            DUE.is("count " + p, x.count(p), UNKNOWN);
        }
        DUE.is("at " + p, x.at(p, 0, 0), UNKNOWN);
        DUE.is("area " + p, x.area(p), 0);
        DUE.is("centroid " + p, x.centroid(p, 0, 0), 0);
        DUE.is("points " + p, x.points(p, 0), UNKNOWN);
        DUE.is("in " + p, x.in(p, 0, 0), UNKNOWN);
        DUE.is("sees " + p, x.sees(p, 0, 1), UNKNOWN);
        DUE.is("way " + p, x.way(p, 0, 1), UNKNOWN);
        DUE.is("step " + p, x.step(p, 0, 1, 0), UNKNOWN);
        DUE.is("triangulations " + p, x.triangulations(p), UNKNOWN);
        DUE.is("best " + p, x.best(p), UNKNOWN);
        DUE.is("triangle " + p, x.triangle(p, 0, 0), UNKNOWN);
        DUE.is("diagonal " + p, x.diagonal(p, 0, 0), UNKNOWN);
        DUE.is("parts " + p, x.parts(p), UNKNOWN);
        DUE.is("symmetries " + p, x.symmetries(p, 0), UNKNOWN);
    }

    /** A polygon that there is not, and other numbers that are out of their bounds too. */
    private static void unknownGoesFirst(PolyCuts x, int p) {
        for (int wild : new int[] {-1, 3001, LEAST}) {
            DUE.is("at", x.at(p, 0, wild), UNKNOWN);
            DUE.is("at, corner", x.at(p, wild, wild), UNKNOWN);
            DUE.is("points", x.points(p, wild), UNKNOWN);
            DUE.is("in", x.in(p, wild, 3001), UNKNOWN);
            DUE.is("sees", x.sees(p, wild, wild), UNKNOWN);
            DUE.is("sees, they are one", x.sees(p, 1, 1), UNKNOWN);
            DUE.is("step", x.step(p, 0, 1, wild), UNKNOWN);
            DUE.is("triangle", x.triangle(p, 0, wild), UNKNOWN);
            DUE.is("triangle, none such", x.triangle(p, wild, wild), UNKNOWN);
            DUE.is("diagonal", x.diagonal(p, 0, wild), UNKNOWN);
            DUE.is("diagonal, none such", x.diagonal(p, wild, wild), UNKNOWN);
            DUE.is("symmetries", x.symmetries(p, wild), UNKNOWN);
            DUE.is("centroid", x.centroid(p, wild, wild), 0);
        }
    }

    private static void refuseCorner(PolyCuts x, int p, int corner) {
        DUE.is("at " + corner, x.at(p, corner, 0), UNKNOWN);
        DUE.is("at " + corner + ", no axis", x.at(p, corner, 2), UNKNOWN);
        DUE.is("sees i " + corner, x.sees(p, corner, 0), UNKNOWN);
        DUE.is("sees j " + corner, x.sees(p, 0, corner), UNKNOWN);
        DUE.is("sees both " + corner, x.sees(p, corner, corner), UNKNOWN);
        DUE.is("way from " + corner, x.way(p, corner, 0), UNKNOWN);
        DUE.is("way to " + corner, x.way(p, 0, corner), UNKNOWN);
        DUE.is("step from " + corner, x.step(p, corner, 0, 0), UNKNOWN);
        DUE.is("step to " + corner, x.step(p, 0, corner, 0), UNKNOWN);
        DUE.is("step from " + corner + ", no k", x.step(p, corner, 0, -1), UNKNOWN);
    }

    private static void refuseNumber(PolyCuts x, int p, int number) {
        if (p < 0) {
            return;
        }
        DUE.is("at, axis " + number, x.at(p, 3, number), OUTSIDE);
        DUE.is("centroid, axis " + number, x.centroid(p, number, 0), 0);
        DUE.is("centroid, side " + number, x.centroid(p, 0, number), 0);
        DUE.is("points, what " + number, x.points(p, number), OUTSIDE);
        DUE.is("triangle, what " + number, x.triangle(p, 0, number), OUTSIDE);
        DUE.is("diagonal, what " + number, x.diagonal(p, 0, number), OUTSIDE);
        DUE.is("symmetries, how " + number, x.symmetries(p, number), OUTSIDE);
        DUE.is("in, x", x.in(p, number < 0 ? -3001 : 3001, number), OUTSIDE);
        DUE.is("in, y", x.in(p, 3000, number < 0 ? -3001 : 3001), OUTSIDE);
        DUE.is("sees, they are one", x.sees(p, 3, 3), OUTSIDE);
        DUE.is("triangle, none such", x.triangle(p, number == 3 ? 2 : number, 0), NONE);
        DUE.is("diagonal, none such", x.diagonal(p, number == 3 ? 1 : number, 0), NONE);
        DUE.is("step, none such", x.step(p, 0, 1, number), NONE);
    }

    private static void refusePairs(PolyCuts x, int polygons) {
        for (int p : new int[] {polygons, NONE, UNKNOWN, 8, LEAST, GREATEST}) {
            DUE.is("same, p " + p, x.same(p, polygons - 1), UNKNOWN);
            DUE.is("same, q " + p, x.same(polygons - 1, p), UNKNOWN);
            DUE.is("onto, p " + p, x.onto(p, polygons - 1), UNKNOWN);
            DUE.is("onto, q " + p, x.onto(polygons - 1, p), UNKNOWN);
            DUE.is("same, both " + p, x.same(p, p), UNKNOWN);
            DUE.is("onto, both " + p, x.onto(p, p), UNKNOWN);
        }
    }
}
