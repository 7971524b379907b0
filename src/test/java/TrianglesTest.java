/** Promises 15 to 19: triangulations, best, triangle, diagonal, parts. */
public final class TrianglesTest {
    private static final Due DUE = new Due();

    public static void main(String[] args) {
        promise15Triangulations();
        promise16Best();
        promise17Triangle();
        promise18Diagonal();
        promise18Merged();
        promise19Parts();
        wrongInputs();
        DUE.end();
    }

    private static void promise15Triangulations() {
        int[] catalan = {1, 2, 5, 14, 42, 132, 429, 1430, 4862, 16796, 58786, 208012};
        for (int n = 3; n <= 14; n++) {
            PolyCuts x = Due.holding(Due.convex(n));
            DUE.is("15: convex with " + n, x.triangulations(0), catalan[n - 3]);
        }
        PolyCuts x = Due.holding(0, 0, 4, 1, 8, 0, 4, 8);
        DUE.is("15: an arrow has one way", x.triangulations(0), 1);
        Due.make(x, 0, 0, 8, 0, 8, 4, 4, 2, 0, 4);
        DUE.is("15: a corner that two diagonals would only touch", x.triangulations(1), 1);
        Due.make(x, 0, 0, 0, 6, 2, 6, 2, 2, 6, 2, 6, 6, 8, 6, 8, 0);
        DUE.is("15: going right", x.triangulations(2), 8);
    }

    private static void promise16Best() {
        PolyCuts x = Due.holding(0, 0, 1, 0, 0, 1);
        DUE.is("16: no diagonals", x.best(0), 0);
        Due.make(x, 0, 0, 5, 0, 7, 3, 1, 3);
        DUE.is("16: the shorter of two", x.best(1), 25);
        Due.make(x, 0, 0, 4, 1, 8, 0, 4, 8);
        DUE.is("16: the only one", x.best(2), 49);
        Due.make(x, -1000, -1000, 0, -999, 1000, -1000, 1000, 1000, -1000, 1000);
        DUE.is("16: far", x.best(3), 2 * (1000 * 1000 + 1999 * 1999));
        // The least diagonal of all, from 1 to 3, is in the best only if the rest is cheap too.
        Due.make(x, 0, 0, 9, 0, 12, 4, 9, 8, 0, 8);
        DUE.is("16: squares, not lengths", x.best(4), 64 + 81 + 64);
    }

    private static void triangleIs(PolyCuts x, int p, int t, int i, int k, int j) {
        String call = "17: triangle(" + p + ", " + t + ", ";
        DUE.is(call + "0)", x.triangle(p, t, 0), i);
        DUE.is(call + "1)", x.triangle(p, t, 1), k);
        DUE.is(call + "2)", x.triangle(p, t, 2), j);
    }

    private static void promise17Triangle() {
        PolyCuts x = Due.holding(0, 0, 1, 0, 0, 1);
        triangleIs(x, 0, 0, 0, 1, 2);
        triangleIs(x, 0, 1, PolyCuts.NONE, PolyCuts.NONE, PolyCuts.NONE);
        // Both diagonals of a square are as long: the least third corner of triangle 0 decides.
        Due.make(x, 0, 0, 4, 0, 4, 4, 0, 4);
        triangleIs(x, 1, 0, 0, 1, 3);
        triangleIs(x, 1, 1, 1, 2, 3);
        triangleIs(x, 1, 2, PolyCuts.NONE, PolyCuts.NONE, PolyCuts.NONE);
        Due.make(x, 0, 0, 5, 5, 10, 0, 10, 10, 5, 6, 0, 10);
        triangleIs(x, 2, 0, 0, 1, 5);
        triangleIs(x, 2, 1, 1, 4, 5);
        triangleIs(x, 2, 2, 1, 3, 4);
        triangleIs(x, 2, 3, 1, 2, 3);
        // Parts on both sides of triangle 0: those from i to k are numbered first.
        Due.make(x, 0, 0, 8, 0, 8, 6, 6, 6, 6, 2, 2, 2, 2, 6, 0, 6);
        triangleIs(x, 3, 0, 0, 5, 7);
        triangleIs(x, 3, 1, 0, 1, 5);
        triangleIs(x, 3, 2, 1, 4, 5);
        triangleIs(x, 3, 3, 1, 2, 4);
        triangleIs(x, 3, 4, 2, 3, 4);
        triangleIs(x, 3, 5, 5, 6, 7);
        DUE.is("17: below", x.triangle(3, -1, 0), PolyCuts.NONE);
        DUE.is("17: far behind", x.triangle(3, Integer.MAX_VALUE, 0), PolyCuts.NONE);
        DUE.is("17: far below", x.triangle(3, Integer.MIN_VALUE, 2), PolyCuts.NONE);
    }

    private static void diagonalIs(PolyCuts x, int p, int d, int lesser, int greater, int stays) {
        String call = "18: diagonal(" + p + ", " + d + ", ";
        DUE.is(call + "0)", x.diagonal(p, d, 0), lesser);
        DUE.is(call + "1)", x.diagonal(p, d, 1), greater);
        DUE.is(call + "2)", x.diagonal(p, d, 2), stays);
    }

    private static void promise18Diagonal() {
        int none = PolyCuts.NONE;
        PolyCuts x = Due.holding(0, 0, 1, 0, 0, 1);
        diagonalIs(x, 0, 0, none, none, none);
        Due.make(x, 0, 0, 4, 0, 4, 4, 0, 4);
        diagonalIs(x, 1, 0, 1, 3, 0);
        diagonalIs(x, 1, 1, none, none, none);
        diagonalIs(x, 1, -1, none, none, none);
        Due.make(x, 0, 0, 4, 1, 8, 0, 4, 8);
        diagonalIs(x, 2, 0, 1, 3, 1);
        Due.make(x, 0, 0, 8, 0, 8, 6, 6, 6, 6, 2, 2, 2, 2, 6, 0, 6);
        diagonalIs(x, 3, 0, 0, 5, 1);
        diagonalIs(x, 3, 1, 1, 4, 1);
        diagonalIs(x, 3, 2, 1, 5, 0);
        diagonalIs(x, 3, 3, 2, 4, 0);
        diagonalIs(x, 3, 4, 5, 7, 0);
        diagonalIs(x, 3, 5, none, none, none);
        DUE.is("18: far behind", x.diagonal(3, Integer.MAX_VALUE, 1), none);
        DUE.is("18: far below", x.diagonal(3, Integer.MIN_VALUE, 2), none);
    }

    private static void promise18Merged() {
        // From the notch of an L: the first goes, so the second must stay, so the third may go.
        int[] notch = {0, 0, 4, 0, 4, -4, 8, -4, 8, 4, 0, 4};
        PolyCuts x = Due.holding(notch);
        diagonalIs(x, 0, 0, 1, 3, 0);
        diagonalIs(x, 0, 1, 1, 4, 1);
        diagonalIs(x, 0, 2, 1, 5, 0);
        // Turned over it goes right, and is merged alike.
        Due.make(x, 0, 0, -4, 0, -4, -4, -8, -4, -8, 4, 0, 4);
        diagonalIs(x, 1, 0, 1, 3, 0);
        diagonalIs(x, 1, 1, 1, 4, 1);
        diagonalIs(x, 1, 2, 1, 5, 0);
        // Without 1-3 the angle at corner 1, from edge 1-2 to 1-4, is straight: it goes.
        Due.make(x, 0, 0, 4, 0, 4, -4, 8, 0, 4, 4, 0, 4);
        diagonalIs(x, 2, 0, 1, 3, 0);
        diagonalIs(x, 2, 1, 1, 4, 1);
        diagonalIs(x, 2, 2, 1, 5, 0);
        // A little more than straight: 1-3 stays, and lets 1-4 go, and then 1-5, straight from 1-3 to edge 0-1.
        Due.make(x, -1, 0, 40, 0, 40, -40, 80, 0, 39, 40, 0, 40);
        diagonalIs(x, 3, 0, 1, 3, 1);
        diagonalIs(x, 3, 1, 1, 4, 0);
        diagonalIs(x, 3, 2, 1, 5, 0);
        // Wide at one end, too wide at the other, whichever is the lesser corner.
        Due.make(x, 0, 0, 4, 1, 8, 0, 4, 8);
        diagonalIs(x, 4, 0, 1, 3, 1);
        Due.make(x, 4, 8, 0, 0, 4, 1, 8, 0);
        diagonalIs(x, 5, 0, 0, 2, 1);
    }

    private static void promise19Parts() {
        PolyCuts x = Due.holding(0, 0, 1, 0, 0, 1);
        DUE.is("19: a triangle", x.parts(0), 1);
        Due.make(x, Due.convex(14));
        DUE.is("19: convex", x.parts(1), 1);
        Due.make(x, 0, 0, 4, 1, 8, 0, 4, 8);
        DUE.is("19: an arrow", x.parts(2), 2);
        Due.make(x, 0, 0, 8, 0, 8, 6, 6, 6, 6, 2, 2, 2, 2, 6, 0, 6);
        DUE.is("19: a U", x.parts(3), 3);
        Due.make(x, 1, 0, 2, 0, 2, 1, 3, 1, 3, 2, 2, 2, 2, 3, 1, 3, 1, 2, 0, 2, 0, 1, 1, 1);
        DUE.is("19: a cross", x.parts(4), 4);
    }

    private static void wrongInputs() {
        PolyCuts x = Due.holding(0, 0, 4, 0, 4, 4, 0, 4);
        for (int wild : Due.wildNumbers()) {
            DUE.is("15: polygon " + wild, x.triangulations(wild), PolyCuts.UNKNOWN);
            DUE.is("16: polygon " + wild, x.best(wild), PolyCuts.UNKNOWN);
            DUE.is("17: polygon " + wild, x.triangle(wild, 0, 0), PolyCuts.UNKNOWN);
            DUE.is("18: polygon " + wild, x.diagonal(wild, 0, 0), PolyCuts.UNKNOWN);
            DUE.is("19: polygon " + wild, x.parts(wild), PolyCuts.UNKNOWN);
            DUE.is("17: what " + wild, x.triangle(0, 0, wild), PolyCuts.OUTSIDE);
            DUE.is("18: what " + wild, x.diagonal(0, 0, wild), PolyCuts.OUTSIDE);
            DUE.is("17: UNKNOWN before OUTSIDE " + wild, x.triangle(1, 0, wild), PolyCuts.UNKNOWN);
            DUE.is("18: UNKNOWN before OUTSIDE " + wild, x.diagonal(1, 0, wild), PolyCuts.UNKNOWN);
            DUE.is("17: OUTSIDE before NONE " + wild, x.triangle(0, 9, wild), PolyCuts.OUTSIDE);
            DUE.is("18: OUTSIDE before NONE " + wild, x.diagonal(0, 9, wild), PolyCuts.OUTSIDE);
        }
        DUE.is("17: what 3", x.triangle(0, 0, 3), PolyCuts.OUTSIDE);
        DUE.is("18: what 3", x.diagonal(0, 0, 3), PolyCuts.OUTSIDE);
        DUE.is("15: polygon 1 of one", x.triangulations(1), PolyCuts.UNKNOWN);
        DUE.is("16: polygon 1 of one", x.best(1), PolyCuts.UNKNOWN);
        DUE.is("19: polygon 1 of one", x.parts(1), PolyCuts.UNKNOWN);
    }
}
