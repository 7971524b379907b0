/** Promises 8 to 11: area, centroid, points, in. */
public final class MeasuresTest {
    private static final Due DUE = new Due();

    public static void main(String[] args) {
        promise8Area();
        promise9Centroid();
        promise10Points();
        promise11In();
        DUE.end();
    }

    private static void promise8Area() {
        PolyCuts x = Due.holding(0, 0, 1, 0, 0, 1);
        Due.make(x, 0, 0, 0, 1, 1, 0);
        Due.make(x, -1000, -1000, 1000, -1000, 1000, 1000, -1000, 1000);
        Due.make(x, -1000, 1000, 1000, 1000, 1000, -1000, -1000, -1000);
        Due.make(x, 100, 100, 108, 100, 108, 106, 106, 106, 106, 102, 102, 102, 102, 106, 100, 106);
        DUE.is("8: the least", x.area(0), 1);
        DUE.is("8: the least, going right", x.area(1), -1);
        DUE.is("8: the greatest", x.area(2), 8000000);
        DUE.is("8: the greatest, going right", x.area(3), -8000000);
        DUE.is("8: not convex, far from 0, 0", x.area(4), 64);
        DUE.is("8: no such", x.area(5), 0);
        DUE.is("8: NONE", x.area(PolyCuts.NONE), 0);
        DUE.is("8: far below", x.area(Integer.MIN_VALUE), 0);
    }

    private static void centroidIs(PolyCuts x, int p, long[] due) {
        for (int i = 0; i < 4; i++) {
            DUE.is("9: centroid(" + p + ", " + i / 2 + ", " + i % 2 + ")", x.centroid(p, i / 2, i % 2), due[i]);
        }
    }

    private static void promise9Centroid() {
        PolyCuts x = Due.holding(0, 0, 1, 0, 0, 1);
        centroidIs(x, 0, new long[] {1, 3, 1, 3});
        Due.make(x, 0, 0, 0, -1, -1, 0);
        centroidIs(x, 1, new long[] {-1, 3, -1, 3});
        Due.make(x, -3, -3, 3, -3, 3, 3, -3, 3);
        centroidIs(x, 2, new long[] {0, 1, 0, 1});
        Due.make(x, -3, 3, 3, 3, 3, -3, -3, -3);
        centroidIs(x, 3, new long[] {0, 1, 0, 1});
        Due.make(x, 0, 0, 5, 5, 10, 0, 10, 10, 5, 6, 0, 10);
        centroidIs(x, 4, new long[] {5, 1, 57, 11});
        Due.make(x, 1000, 1000, 1000, 999, 997, 1000);
        centroidIs(x, 5, new long[] {999, 1, 2999, 3});
        Due.make(x, -1000, -1000, 1000, -999, 1000, 1000, -997, 998);
        DUE.is("9: least terms", gcd(x.centroid(6, 0, 0), x.centroid(6, 0, 1)), 1);
        DUE.is("9: no such polygon", x.centroid(7, 0, 0), 0);
        DUE.is("9: NONE, below", x.centroid(PolyCuts.NONE, 0, 1), 0);
        DUE.is("9: no such axis", x.centroid(0, 2, 1), 0);
        DUE.is("9: no such axis below", x.centroid(0, -1, 1), 0);
        DUE.is("9: no such side", x.centroid(0, 0, 2), 0);
        DUE.is("9: no such side below", x.centroid(0, 0, -1), 0);
    }

    private static long gcd(long a, long b) {
        return b == 0 ? Math.abs(a) : gcd(b, a % b);
    }

    private static void promise10Points() {
        PolyCuts x = Due.holding(0, 0, 1, 0, 0, 1);
        DUE.is("10: on the least", x.points(0, 0), 3);
        DUE.is("10: in the least", x.points(0, 1), 0);
        Due.make(x, -1000, 1000, 1000, 1000, 1000, -1000, -1000, -1000);
        DUE.is("10: on the greatest, going right", x.points(1, 0), 8000);
        DUE.is("10: in the greatest, going right", x.points(1, 1), 1999 * 1999);
        Due.make(x, 0, 0, 6, 3, 2, 5);
        DUE.is("10: on slanted edges", x.points(2, 0), 3 + 2 + 1);
        DUE.is("10: in slanted edges", x.points(2, 1), 10);
        Due.make(x, -1000, -1000, 999, 1000, 1000, 1000);
        DUE.is("10: on a sliver", x.points(3, 0), 2002);
        DUE.is("10: in a sliver", x.points(3, 1), 0);
        DUE.is("10: no such what", x.points(0, 2), PolyCuts.OUTSIDE);
        DUE.is("10: no such what below", x.points(0, -1), PolyCuts.OUTSIDE);
        DUE.is("10: no such polygon", x.points(4, 0), PolyCuts.UNKNOWN);
        DUE.is("10: UNKNOWN goes before OUTSIDE", x.points(-1, 2), PolyCuts.UNKNOWN);
    }

    private static void promise11In() {
        int[] comb = {0, 0, 8, 0, 8, 6, 6, 6, 6, 2, 4, 4, 2, 2, 2, 6, 0, 6};
        int[] places = {
            1, 1, 2, 8, 3, 1, 4, 4, 1, 4, 3, 2, 3, 3, 1, 3, 4, 0, 4, 5, 0, 5, 4, 0, 6, 4, 1, 7, 6, 1, 7, 5, 2,
            -1, 2, 0, -1, 0, 0, -1, 6, 0, 9, 6, 0, 4, 6, 0, 4, 0, 1, 4, -1, 0, 1, 2, 2, 2, 2, 1, 0, 0, 1, 0, 7, 0,
            4, 2, 2, 3, 2, 2, 9, 2, 0, 9, 4, 0, -3, 4, 0};
        PolyCuts x = Due.holding(comb);
        Due.make(x, Due.backward(comb));
        for (int i = 0; i < places.length; i += 3) {
            String point = "11: in(p, " + places[i] + ", " + places[i + 1] + ")";
            DUE.is(point, x.in(0, places[i], places[i + 1]), places[i + 2]);
            DUE.is(point + " going right", x.in(1, places[i], places[i + 1]), places[i + 2]);
        }
        Due.make(x, -1000, -1000, 1000, 999, 999, 1000);
        DUE.is("11: just in a sliver", x.in(2, 999, 999), 2);
        DUE.is("11: just out of a sliver", x.in(2, 998, 996), 0);
        DUE.is("11: the farthest", x.in(2, 3000, -3000), 0);
        DUE.is("11: the other farthest", x.in(2, -3000, 3000), 0);
        DUE.is("11: on the long edge's line, but behind", x.in(2, 3000, 2998), 0);
        DUE.is("11: x too far", x.in(0, 3001, 0), PolyCuts.OUTSIDE);
        DUE.is("11: x too far below", x.in(0, -3001, 0), PolyCuts.OUTSIDE);
        DUE.is("11: y too far", x.in(0, 0, 3001), PolyCuts.OUTSIDE);
        DUE.is("11: y too far below", x.in(0, 0, -3001), PolyCuts.OUTSIDE);
        DUE.is("11: the least", x.in(0, 0, Integer.MIN_VALUE), PolyCuts.OUTSIDE);
        DUE.is("11: no such polygon", x.in(3, 0, 0), PolyCuts.UNKNOWN);
        DUE.is("11: UNKNOWN goes before OUTSIDE", x.in(-1, 3001, 0), PolyCuts.UNKNOWN);
    }
}
