/** Promises 12 to 14: sees, way, step. */
public final class SightTest {
    private static final Due DUE = new Due();

    /** A bar with three teeth upward; corners 3, 4, 6, 7 lie on one line. */
    private static final int[] COMB = {0, 0, 10, 0, 10, 6, 8, 2, 6, 2, 5, 6, 4, 2, 2, 2, 0, 6};

    public static void main(String[] args) {
        promise12Sees();
        promise12SeesAlongCorners();
        promise13Way();
        promise14Step();
        wrongInputs();
        DUE.end();
    }

    private static void seesIs(PolyCuts x, int i, int j, int due) {
        DUE.is("12: sees(0, " + i + ", " + j + ")", x.sees(0, i, j), due);
        DUE.is("12: sees(0, " + j + ", " + i + ")", x.sees(0, j, i), due);
    }

    private static void promise12Sees() {
        PolyCuts x = Due.holding(COMB);
        for (int i = 0; i < 9; i++) {
            seesIs(x, i, (i + 1) % 9, 2);
        }
        seesIs(x, 0, 2, 0);
        seesIs(x, 0, 3, 1);
        seesIs(x, 0, 4, 1);
        seesIs(x, 0, 5, 0);
        seesIs(x, 2, 5, 0);
        seesIs(x, 2, 8, 0);
        seesIs(x, 4, 6, 1);
        seesIs(x, 3, 5, 0);
        seesIs(x, 1, 8, 0);
        seesIs(x, 1, 7, 1);
    }

    private static void promise12SeesAlongCorners() {
        PolyCuts x = Due.holding(COMB);
        seesIs(x, 3, 6, 0);
        seesIs(x, 4, 7, 0);
        seesIs(x, 3, 7, 0);
        // A corner that only touches the segment from its side stops it too.
        x = Due.holding(0, 0, 8, 0, 8, 4, 4, 2, 0, 4);
        seesIs(x, 0, 2, 0);
        seesIs(x, 1, 4, 0);
        seesIs(x, 0, 3, 1);
        seesIs(x, 2, 4, 0);
        // A segment outside that meets no edge is no diagonal, whichever way the polygon goes.
        x = Due.holding(0, 4, 4, 2, 8, 4, 8, 0, 0, 0);
        seesIs(x, 0, 2, 0);
        seesIs(x, 1, 3, 1);
        seesIs(x, 1, 4, 1);
        // The middle of a segment of odd length is not a whole point.
        x = Due.holding(0, 0, 1, 0, 1, 1, 0, 1);
        seesIs(x, 0, 2, 1);
        x = Due.holding(-1000, -1000, 1000, -999, 1000, 1000, 999, -998);
        seesIs(x, 0, 2, 0);
        seesIs(x, 1, 3, 1);
    }

    private static void wayIs(PolyCuts x, int... due) {
        int from = due[0];
        int to = due[due.length - 1];
        String call = "(0, " + from + ", " + to;
        DUE.is("13: way" + call + ")", x.way(0, from, to), due.length - 1);
        for (int k = 0; k < due.length; k++) {
            DUE.is("14: step" + call + ", " + k + ")", x.step(0, from, to, k), due[k]);
        }
        DUE.is("14: behind step" + call + ")", x.step(0, from, to, due.length), PolyCuts.NONE);
        DUE.is("14: before step" + call + ")", x.step(0, from, to, -1), PolyCuts.NONE);
    }

    private static void promise13Way() {
        PolyCuts x = Due.holding(COMB);
        for (int i = 0; i < 9; i++) {
            wayIs(x, i);
            wayIs(x, i, (i + 1) % 9);
            wayIs(x, (i + 1) % 9, i);
        }
        wayIs(x, 0, 4);
        wayIs(x, 2, 1, 0);
        wayIs(x, 2, 1, 0, 8);
        wayIs(x, 8, 0, 1, 2);
        wayIs(x, 5, 4, 0, 8);
        wayIs(x, 2, 1, 4, 5);
    }

    private static void promise14Step() {
        // A staircase: several ways are as short, and the least second corner decides first.
        PolyCuts x = Due.holding(0, 0, 4, 0, 4, 4, 8, 4, 8, 8, 12, 8, 12, 12, 7, 12, 7, 9, 3, 9, 3, 5, 0, 5);
        int n = x.count(0);
        for (int from = 0; from < n; from++) {
            for (int to = 0; to < n; to++) {
                wayIs(x, leastWay(x, from, to));
            }
        }
        // Nothing of an earlier way is left over.
        x.way(0, 3, 3);
        DUE.is("14: step without way() before it", x.step(0, 0, 6, 1), leastWay(x, 0, 6)[1]);
        DUE.is("14: and to another corner", x.step(0, 6, 0, 1), leastWay(x, 6, 0)[1]);
        DUE.is("14: far behind", x.step(0, 0, 6, Integer.MAX_VALUE), PolyCuts.NONE);
        DUE.is("14: far before", x.step(0, 0, 6, Integer.MIN_VALUE), PolyCuts.NONE);
    }

    private static int[] leastWay(PolyCuts x, int from, int to) {
        for (int length = 0; length < 14; length++) {
            int[] way = new int[length + 1];
            way[0] = from;
            if (completes(x, way, 1, to)) {
                return way;
            }
        }
        throw new IllegalStateException("no way");
    }

    private static boolean completes(PolyCuts x, int[] way, int known, int to) {
        if (known == way.length) {
            return way[known - 1] == to;
        }
        for (int next = 0; next < x.count(0); next++) {
            if (x.sees(0, way[known - 1], next) > 0) {
                way[known] = next;
                if (completes(x, way, known + 1, to)) {
                    return true;
                }
            }
        }
        return false;
    }

    private static void wrongInputs() {
        PolyCuts x = Due.holding(0, 0, 4, 0, 4, 4, 0, 4);
        for (int wild : Due.wildNumbers()) {
            DUE.is("12: polygon " + wild, x.sees(wild, 0, 1), PolyCuts.UNKNOWN);
            DUE.is("12: corner i " + wild, x.sees(0, wild, 1), PolyCuts.UNKNOWN);
            DUE.is("12: corner j " + wild, x.sees(0, 1, wild), PolyCuts.UNKNOWN);
            DUE.is("12: both " + wild, x.sees(0, wild, wild), PolyCuts.UNKNOWN);
            DUE.is("13: polygon " + wild, x.way(wild, 0, 1), PolyCuts.UNKNOWN);
            DUE.is("13: from " + wild, x.way(0, wild, 1), PolyCuts.UNKNOWN);
            DUE.is("13: to " + wild, x.way(0, 1, wild), PolyCuts.UNKNOWN);
            DUE.is("14: polygon " + wild, x.step(wild, 0, 1, 0), PolyCuts.UNKNOWN);
            DUE.is("14: from " + wild, x.step(0, wild, 1, 0), PolyCuts.UNKNOWN);
            DUE.is("14: to " + wild, x.step(0, 1, wild, 0), PolyCuts.UNKNOWN);
            DUE.is("14: UNKNOWN goes before NONE " + wild, x.step(0, 1, wild, -1), PolyCuts.UNKNOWN);
        }
        DUE.is("12: corner 4 of four", x.sees(0, 0, 4), PolyCuts.UNKNOWN);
        DUE.is("13: corner 4 of four", x.way(0, 4, 4), PolyCuts.UNKNOWN);
        DUE.is("12: they are one", x.sees(0, 2, 2), PolyCuts.OUTSIDE);
        DUE.is("12: they are one, unknown", x.sees(0, 4, 4), PolyCuts.UNKNOWN);
        DUE.is("12: they are one, polygon unknown", x.sees(1, 2, 2), PolyCuts.UNKNOWN);
    }
}
