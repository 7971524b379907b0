import java.math.BigInteger;
import java.util.Random;

/** Promises 3, 4 and 8 to 22 on many polygons that chance made, against the slow and plain Oracle. */
public final class OracleTest {
    private static final Due DUE = new Due();
    private static final Random CHANCE = new Random(20261116);

    public static void main(String[] args) {
        for (int round = 0; round < 20000; round++) {
            rowsMeetTheirFaults(CHANCE.nextInt(8), 1 + CHANCE.nextInt(6));
        }
        for (int round = 0; round < 800; round++) {
            int[] xy = grown(3 + CHANCE.nextInt(12), 3 + CHANCE.nextInt(7));
            measures(xy);
            sight(xy);
        }
        for (int round = 0; round < 600; round++) {
            triangles(grown(3 + CHANCE.nextInt(7), 3 + CHANCE.nextInt(7)));
        }
        for (int round = 0; round < 40; round++) {
            triangles(grown(10 + CHANCE.nextInt(2), 3 + CHANCE.nextInt(5)));
        }
        for (int round = 0; round < 2000; round++) {
            sameness(grown(3 + CHANCE.nextInt(6), 2 + CHANCE.nextInt(4)));
        }
        for (int round = 0; round < 300; round++) {
            int[] xy = grown(14, 5 + CHANCE.nextInt(30));
            triangles(xy);
            sameness(xy);
        }
        far();
        DUE.end();
    }

    private static int[] row(int n, int size) {
        int[] xy = new int[2 * n];
        for (int i = 0; i < xy.length; i++) {
            xy[i] = CHANCE.nextInt(size + 1);
        }
        return xy;
    }

    private static String name(int[] xy) {
        return java.util.Arrays.toString(xy);
    }

    private static void rowsMeetTheirFaults(int n, int size) {
        int[] xy = row(n, size);
        int[] due = new Oracle(xy).fault();
        PolyCuts x = new PolyCuts();
        DUE.is("polygon() of " + name(xy), Due.make(x, xy), due[0] == 0 ? 0 : -10 - due[0]);
        DUE.is("fault(0) of " + name(xy), x.fault(0), due[1]);
        DUE.is("fault(1) of " + name(xy), x.fault(1), due[2]);
    }

    /** A polygon that grew from a triangle, a corner put into an edge at a time; it may stay smaller. */
    private static int[] grown(int n, int size) {
        int[] xy = row(3, size);
        while (new Oracle(xy).fault()[0] != 0) {
            xy = row(3, size);
        }
        for (int tries = 0; tries < 300 && xy.length < 2 * n; tries++) {
            int place = 2 * CHANCE.nextInt(xy.length / 2 + 1);
            int[] longer = new int[xy.length + 2];
            System.arraycopy(xy, 0, longer, 0, place);
            System.arraycopy(xy, place, longer, place + 2, xy.length - place);
            longer[place] = CHANCE.nextInt(size + 1);
            longer[place + 1] = CHANCE.nextInt(size + 1);
            xy = new Oracle(longer).fault()[0] == 0 ? longer : xy;
        }
        return CHANCE.nextBoolean() ? xy : changed(xy, 0, true, new int[] {1, 0, 0, 1});
    }

    private static int[] changed(int[] xy, int first, boolean backward, int[] abcd) {
        int n = xy.length / 2;
        int[] made = new int[xy.length];
        for (int i = 0; i < n; i++) {
            int from = Math.floorMod(backward ? first - i : first + i, n);
            made[2 * i] = abcd[0] * xy[2 * from] + abcd[1] * xy[2 * from + 1];
            made[2 * i + 1] = abcd[2] * xy[2 * from] + abcd[3] * xy[2 * from + 1];
        }
        return made;
    }

    private static void areaAndCentroid(PolyCuts x, Oracle oracle, String name) {
        DUE.is("area of " + name, x.area(0), oracle.area());
        for (int axis = 0; axis < 2; axis++) {
            BigInteger[] due = oracle.centroid(axis);
            DUE.is("centroid's above of " + name, x.centroid(0, axis, 0), due[0].longValueExact());
            DUE.is("centroid's below of " + name, x.centroid(0, axis, 1), due[1].longValueExact());
        }
    }

    private static void measures(int[] xy) {
        Oracle oracle = new Oracle(xy);
        PolyCuts x = Due.holding(xy);
        areaAndCentroid(x, oracle, name(xy));
        int[] points = oracle.points();
        DUE.is("points on " + name(xy), x.points(0, 0), points[1]);
        DUE.is("points inside " + name(xy), x.points(0, 1), points[2]);
        for (int px = -1; px < 11; px++) {
            for (int py = -1; py < 11; py++) {
                DUE.is("in of " + name(xy) + " " + px + " " + py, x.in(0, px, py), oracle.in(px, py, 1));
            }
        }
    }

    private static void sight(int[] xy) {
        Oracle oracle = new Oracle(xy);
        PolyCuts x = Due.holding(xy);
        for (int i = 0; i < oracle.n; i++) {
            for (int j = 0; j < oracle.n; j++) {
                String what = i + " to " + j + " of " + name(xy);
                if (i != j) {
                    DUE.is("sees " + what, x.sees(0, i, j), oracle.sees(i, j));
                }
                int[] way = oracle.way(i, j);
                DUE.is("way " + what, x.way(0, i, j), way.length - 1);
                for (int k = 0; k < way.length; k++) {
                    DUE.is("step " + k + " " + what, x.step(0, i, j, k), way[k]);
                }
                DUE.is("behind " + what, x.step(0, i, j, way.length), PolyCuts.NONE);
            }
        }
    }

    private static void triangles(int[] xy) {
        Oracle oracle = new Oracle(xy);
        oracle.cut();
        PolyCuts x = Due.holding(xy);
        DUE.is("triangulations of " + name(xy), x.triangulations(0), oracle.triangulations);
        DUE.is("best of " + name(xy), x.best(0), oracle.best);
        DUE.is("parts of " + name(xy), x.parts(0), oracle.parts);
        for (int t = 0; t < oracle.n - 2; t++) {
            for (int what = 0; what < 3; what++) {
                DUE.is("triangle " + t + " of " + name(xy), x.triangle(0, t, what), oracle.triangles.get(t)[what]);
            }
        }
        DUE.is("triangle behind of " + name(xy), x.triangle(0, oracle.n - 2, 0), PolyCuts.NONE);
        for (int d = 0; d < oracle.n - 3; d++) {
            String what = "diagonal " + d + " of " + name(xy);
            DUE.is(what, x.diagonal(0, d, 0), oracle.diagonals.get(d)[0]);
            DUE.is(what, x.diagonal(0, d, 1), oracle.diagonals.get(d)[1]);
            DUE.is(what + " stays", x.diagonal(0, d, 2), oracle.stays[d]);
        }
        DUE.is("diagonal behind of " + name(xy), x.diagonal(0, oracle.n - 3, 0), PolyCuts.NONE);
    }

    private static void sameness(int[] xy) {
        int[][] turns = {{5, 0, 0, 5}, {0, -5, 5, 0}, {3, -4, 4, 3}, {-5, 0, 0, 5}, {4, 3, 3, -4}, {0, 5, 5, 0}, {6, 0, 0, 5}};
        int[] turn = turns[CHANCE.nextInt(turns.length)];
        int[] first = changed(xy, 0, false, turns[0]);
        int[] second = changed(xy, CHANCE.nextInt(xy.length / 2), CHANCE.nextBoolean(), turn);
        if (CHANCE.nextInt(4) == 0) {
            int[] nudged = second.clone();
            nudged[CHANCE.nextInt(nudged.length)] += 1;
            second = new Oracle(nudged).fault()[0] == 0 ? nudged : second;
        }
        PolyCuts x = Due.holding(first);
        Due.make(x, second);
        int[] found = new Oracle(first).onto(new Oracle(second));
        int same = found[0] > 0 ? 1 : found[1] > 0 ? 2 : 0;
        String what = " of " + name(first) + " and " + name(second);
        DUE.is("same" + what, x.same(0, 1), same);
        DUE.is("same, back," + what, x.same(1, 0), same);
        DUE.is("onto" + what, x.onto(0, 1), same == 0 ? PolyCuts.NONE : found[1 + same]);
        int[] self = new Oracle(first).onto(new Oracle(first));
        DUE.is("symmetries of " + name(first), x.symmetries(0, 0), self[0]);
        DUE.is("symmetries, over, of " + name(first), x.symmetries(0, 1), self[0] + self[1]);
    }

    /** Numbers as great as they may be. */
    private static void far() {
        int[] square = {-1, -1, 1, -1, 1, 1, -1, 1};
        for (int round = 0; round < 300; round++) {
            int[] xy = grown(3 + CHANCE.nextInt(12), 2000);
            for (int i = 0; i < xy.length; i++) {
                xy[i] -= 1000;
            }
            farMeasures(xy);
            sight(xy);
            triangles(xy);
        }
        farMeasures(changed(square, 0, false, new int[] {1000, 0, 0, 1000}));
        farMeasures(changed(square, 1, true, new int[] {1000, 0, 0, 1000}));
    }

    private static void farMeasures(int[] xy) {
        Oracle oracle = new Oracle(xy);
        PolyCuts x = Due.holding(xy);
        areaAndCentroid(x, oracle, name(xy));
        for (int tries = 0; tries < 100; tries++) {
            int px = CHANCE.nextInt(6001) - 3000;
            int py = CHANCE.nextInt(6001) - 3000;
            DUE.is("in of " + name(xy) + " " + px + " " + py, x.in(0, px, py), oracle.in(px, py, 1));
        }
    }
}
