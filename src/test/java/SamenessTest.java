/** Promises 20 to 22: same, onto, symmetries. */
public final class SamenessTest {
    private static final Due DUE = new Due();

    /** No two edges are as long, so that it comes onto itself in one way alone. */
    private static final int[] ODD = {0, 0, 7, 1, 6, 5, 1, 4};

    public static void main(String[] args) {
        promise20Same();
        promise20LikeButOther();
        promise20LeastAndMost();
        promise21Onto();
        promise21AsSameTells();
        promise22Symmetries();
        wrongInputs();
        DUE.end();
    }

    /** The corners from the one named on, forward or backward, each put through a, b, c, d and moved. */
    private static int[] moved(int[] xy, int first, boolean backward, int[] abcd, int dx, int dy) {
        int n = xy.length / 2;
        int[] made = new int[xy.length];
        for (int i = 0; i < n; i++) {
            int from = Math.floorMod(backward ? first - i : first + i, n);
            int x = xy[2 * from];
            int y = xy[2 * from + 1];
            made[2 * i] = abcd[0] * x + abcd[1] * y + dx;
            made[2 * i + 1] = abcd[2] * x + abcd[3] * y + dy;
        }
        return made;
    }

    private static void sameIs(PolyCuts x, int p, int q, int same, int onto) {
        DUE.is("20: same(" + p + ", " + q + ")", x.same(p, q), same);
        DUE.is("21: onto(" + p + ", " + q + ")", x.onto(p, q), onto);
    }

    private static void promise20Same() {
        PolyCuts x = Due.holding(ODD);
        Due.make(x, moved(ODD, 0, false, new int[] {1, 0, 0, 1}, 50, -70));
        Due.make(x, moved(ODD, 1, false, new int[] {0, -1, 1, 0}, 3, 4));
        Due.make(x, moved(ODD, 2, true, new int[] {-1, 0, 0, -1}, -9, 1));
        Due.make(x, moved(ODD, 3, false, new int[] {-1, 0, 0, 1}, 0, 0));
        Due.make(x, moved(ODD, 1, true, new int[] {0, 1, 1, 0}, 8, 8));
        Due.make(x, moved(ODD, 0, false, new int[] {2, 0, 0, 2}, 0, 0));
        sameIs(x, 0, 0, 1, 0);
        sameIs(x, 0, 1, 1, 0);
        sameIs(x, 0, 2, 1, 3);
        sameIs(x, 2, 0, 1, 1);
        sameIs(x, 0, 3, 1, 2);
        sameIs(x, 3, 0, 1, 2);
        sameIs(x, 0, 4, 2, 1);
        sameIs(x, 4, 0, 2, 3);
        sameIs(x, 0, 5, 2, 1);
        sameIs(x, 5, 0, 2, 1);
        sameIs(x, 4, 5, 1, 2);
        sameIs(x, 0, 6, 0, PolyCuts.NONE);
        sameIs(x, 6, 0, 0, PolyCuts.NONE);
        // Turned by an angle that is no quarter of a full one.
        int[] five = moved(ODD, 0, false, new int[] {5, 0, 0, 5}, 0, 0);
        Due.make(x, five);
        x.drop();
        PolyCuts y = Due.holding(five);
        Due.make(y, moved(ODD, 2, false, new int[] {3, -4, 4, 3}, 100, 0));
        Due.make(y, moved(ODD, 2, false, new int[] {3, 4, 4, -3}, 100, 0));
        sameIs(y, 0, 1, 1, 2);
        sameIs(y, 0, 2, 2, 2);
        sameIs(y, 1, 2, 2, 0);
    }

    private static void promise20LikeButOther() {
        // Edges as long, but other angles: a square, a rhomb; and the rhomb's mirror.
        PolyCuts x = Due.holding(0, 0, 5, 0, 5, 5, 0, 5);
        Due.make(x, 0, 0, 5, 0, 8, 4, 3, 4);
        Due.make(x, 0, 0, 5, 0, 2, 4, -3, 4);
        sameIs(x, 0, 1, 0, PolyCuts.NONE);
        sameIs(x, 1, 2, 1, 1);
        sameIs(x, 2, 1, 1, 1);
        // Angles as wide, but other edges.
        Due.make(x, 0, 0, 6, 0, 6, 5, 0, 5);
        sameIs(x, 0, 3, 0, PolyCuts.NONE);
        // A corner more on one than on the other.
        Due.make(x, 0, 0, 5, 0, 5, 5);
        sameIs(x, 0, 4, 0, PolyCuts.NONE);
        sameIs(x, 4, 0, 0, PolyCuts.NONE);
        // A bump that goes out on the one, in on the other: edges and wide angles agree elsewhere.
        Due.make(x, 0, 0, 8, 0, 8, 8, 4, 10, 0, 8);
        Due.make(x, 0, 0, 8, 0, 8, 8, 4, 6, 0, 8);
        sameIs(x, 5, 6, 0, PolyCuts.NONE);
        sameIs(x, 6, 5, 0, PolyCuts.NONE);
    }

    private static void promise20LeastAndMost() {
        PolyCuts x = Due.holding(0, 0, 1, 0, 0, 1);
        Due.make(x, 0, 0, 0, 1, 1, 0);
        sameIs(x, 0, 1, 1, 0);
        sameIs(x, 1, 0, 1, 0);
        int[] zigzag = {0, 0, 2, 1, 4, 0, 6, 1, 8, 0, 10, 1, 12, 0, 12, 5, 10, 6, 8, 5, 6, 6, 4, 5, 2, 6, 0, 5};
        Due.make(x, zigzag);
        Due.make(x, moved(zigzag, 1, false, new int[] {0, -1, 1, 0}, 0, 0));
        Due.make(x, moved(zigzag, 9, true, new int[] {1, 0, 0, 1}, 0, 0));
        zigzag[0] = 1;
        Due.make(x, zigzag);
        Due.make(x, moved(zigzag, 0, true, new int[] {-1, 0, 0, 1}, 0, 0));
        sameIs(x, 2, 3, 1, 13);
        sameIs(x, 2, 4, 1, 9);
        sameIs(x, 2, 5, 0, PolyCuts.NONE);
        sameIs(x, 5, 6, 2, 0);
        symmetriesAre(x, 2, 1, 2);
        symmetriesAre(x, 5, 1, 1);
    }

    private static void promise21Onto() {
        // A parallelogram comes onto itself when half turned: two corners, the lesser is told.
        int[] slanted = {0, 0, 3, 0, 4, 2, 1, 2};
        PolyCuts x = Due.holding(slanted);
        Due.make(x, moved(slanted, 1, false, new int[] {1, 0, 0, 1}, 0, 0));
        Due.make(x, moved(slanted, 3, false, new int[] {1, 0, 0, 1}, 0, 0));
        Due.make(x, moved(slanted, 2, false, new int[] {-1, 0, 0, 1}, 0, 0));
        sameIs(x, 0, 0, 1, 0);
        sameIs(x, 0, 1, 1, 1);
        sameIs(x, 0, 2, 1, 1);
        sameIs(x, 0, 3, 2, 0);
    }

    private static void promise21AsSameTells() {
        // By turning corner 0 comes onto corner 2 alone, turned over onto corner 1: same() tells the first.
        int[] dart = {0, 0, 4, 0, 3, 5, 1, 5};
        PolyCuts x = Due.holding(dart);
        Due.make(x, moved(dart, 2, false, new int[] {1, 0, 0, 1}, 10, 10));
        sameIs(x, 0, 1, 1, 2);
        Due.make(x, moved(dart, 3, false, new int[] {1, 0, 0, 1}, 10, 10));
        sameIs(x, 0, 2, 1, 1);
        Due.make(x, moved(dart, 1, false, new int[] {1, 0, 0, 1}, 10, 10));
        sameIs(x, 0, 3, 1, 3);
    }

    private static void symmetriesAre(PolyCuts x, int p, int turned, int all) {
        DUE.is("22: symmetries(" + p + ", 0)", x.symmetries(p, 0), turned);
        DUE.is("22: symmetries(" + p + ", 1)", x.symmetries(p, 1), all);
    }

    private static void promise22Symmetries() {
        PolyCuts x = Due.holding(ODD);
        Due.make(x, 0, 0, 4, 0, 4, 4, 0, 4);
        Due.make(x, 0, 4, 4, 4, 4, 0, 0, 0);
        Due.make(x, 0, 0, 6, 0, 6, 4, 0, 4);
        Due.make(x, 0, 0, 3, 0, 4, 2, 1, 2);
        Due.make(x, 0, 0, 4, 0, 3, 5, 1, 5);
        Due.make(x, 0, 0, 3, 1, 4, 0, 4, 3, 5, 4, 2, 4, 1, 5, 1, 2);
        Due.make(x, 0, 0, 6, 0, 3, 7);
        symmetriesAre(x, 0, 1, 1);
        symmetriesAre(x, 1, 4, 8);
        symmetriesAre(x, 2, 4, 8);
        symmetriesAre(x, 3, 2, 4);
        symmetriesAre(x, 4, 2, 2);
        symmetriesAre(x, 5, 1, 2);
        symmetriesAre(x, 7, 1, 2);
        PolyCuts y = Due.holding(3, 0, 1, 1, 0, 3, -1, 1, -3, 0, -1, -1, 0, -3, 1, -1);
        symmetriesAre(y, 0, 4, 8);
        Due.make(y, 3, 1, 1, 1, -1, 3, -1, 1, -3, -1, -1, -1, 1, -3, 1, -1);
        symmetriesAre(y, 1, 4, 4);
    }

    private static void wrongInputs() {
        PolyCuts x = Due.holding(0, 0, 4, 0, 4, 4, 0, 4);
        for (int wild : Due.wildNumbers()) {
            DUE.is("20: p " + wild, x.same(wild, 0), PolyCuts.UNKNOWN);
            DUE.is("20: q " + wild, x.same(0, wild), PolyCuts.UNKNOWN);
            DUE.is("21: p " + wild, x.onto(wild, 0), PolyCuts.UNKNOWN);
            DUE.is("21: q " + wild, x.onto(0, wild), PolyCuts.UNKNOWN);
            DUE.is("22: polygon " + wild, x.symmetries(wild, 0), PolyCuts.UNKNOWN);
            DUE.is("22: how " + wild, x.symmetries(0, wild), PolyCuts.OUTSIDE);
            DUE.is("22: UNKNOWN before OUTSIDE " + wild, x.symmetries(wild, wild), PolyCuts.UNKNOWN);
        }
        DUE.is("20: polygon 1 of one", x.same(0, 1), PolyCuts.UNKNOWN);
        DUE.is("21: polygon 1 of one", x.onto(1, 0), PolyCuts.UNKNOWN);
        DUE.is("22: how 2", x.symmetries(0, 2), PolyCuts.OUTSIDE);
    }
}
