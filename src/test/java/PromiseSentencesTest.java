/** A test of its own for each sentence of promises 1 to 22 that names a boundary case, in their order. */
public final class PromiseSentencesTest {
    private static final Due DUE = new Due();
    private static final int NONE = PolyCuts.NONE, UNKNOWN = PolyCuts.UNKNOWN;
    private static final int OUTSIDE = PolyCuts.OUTSIDE, ROOM = PolyCuts.ROOM;
    private static final int LEAST = Integer.MIN_VALUE, GREATEST = Integer.MAX_VALUE;

    private static final int[] TRIANGLE = {0, 0, 1, 0, 0, 1};
    private static final int[] SQUARE = {0, 0, 4, 0, 4, 4, 0, 4};
    private static final int[] GREATEST_SQUARE = {-1000, -1000, 1000, -1000, 1000, 1000, -1000, 1000};
    private static final int[] ARROW = {0, 0, 4, 1, 8, 0, 4, 8};
    private static final int[] BOW_TIE = {0, 0, 4, 4, 4, 0, 0, 4};

    public static void main(String[] args) {
        promise1NoPolygons();
        promise1EmptyRow();
        promise2BehindTheRow();
        promise2Outside();
        promise2Room();
        promise3Number();
        promise3Fault();
        promise3Room();
        promise4Latest();
        promise4NotRoom();
        promise4NoneElse();
        promise4Outside();
        promise5Drop();
        promise6Count();
        promise7At();
        promise8Area();
        promise9LeastTerms();
        promise9Zero();
        promise10Points();
        promise11In();
        promise12Sees();
        promise13Way();
        promise14Step();
        promise15Triangulations();
        promise16Best();
        promise17Triangle();
        promise18Diagonal();
        promise19Parts();
        promise20Same();
        promise21Onto();
        promise22Symmetries();
        DUE.end();
    }

    private static PolyCuts full() {
        PolyCuts x = new PolyCuts();
        for (int p = 0; p < 8; p++) {
            Due.make(x, SQUARE);
        }
        return x;
    }

    private static void faultIs(PolyCuts x, String when, int first, int second) {
        DUE.is("fault(0) " + when, x.fault(0), first);
        DUE.is("fault(1) " + when, x.fault(1), second);
    }

    private static void promise1NoPolygons() {
        DUE.says("PolyCuts(): No POLYGONS");
        PolyCuts x = new PolyCuts();
        DUE.is("count(NONE)", x.count(NONE), 0);
        DUE.is("count(0)", x.count(0), UNKNOWN);
        DUE.is("drop()", x.drop(), UNKNOWN);
        DUE.is("at(0, 0, 0)", x.at(0, 0, 0), UNKNOWN);
        DUE.is("area(0)", x.area(0), 0);
        DUE.is("centroid(0, 0, 1)", x.centroid(0, 0, 1), 0);
        DUE.is("points(0, 0)", x.points(0, 0), UNKNOWN);
        DUE.is("in(0, 0, 0)", x.in(0, 0, 0), UNKNOWN);
        DUE.is("sees(0, 0, 1)", x.sees(0, 0, 1), UNKNOWN);
        DUE.is("way(0, 0, 0)", x.way(0, 0, 0), UNKNOWN);
        DUE.is("step(0, 0, 0, 0)", x.step(0, 0, 0, 0), UNKNOWN);
        DUE.is("triangulations(0)", x.triangulations(0), UNKNOWN);
        DUE.is("best(0)", x.best(0), UNKNOWN);
        DUE.is("triangle(0, 0, 0)", x.triangle(0, 0, 0), UNKNOWN);
        DUE.is("diagonal(0, 0, 0)", x.diagonal(0, 0, 0), UNKNOWN);
        DUE.is("parts(0)", x.parts(0), UNKNOWN);
        DUE.is("same(0, 0)", x.same(0, 0), UNKNOWN);
        DUE.is("onto(0, 0)", x.onto(0, 0), UNKNOWN);
        DUE.is("symmetries(0, 0)", x.symmetries(0, 0), UNKNOWN);
        faultIs(x, "before any polygon()", NONE, NONE);
    }

    private static void promise1EmptyRow() {
        DUE.says("PolyCuts(): an empty ROW");
        DUE.is("the first corner", new PolyCuts().corner(0, 0), 1);
        DUE.is("no corner", new PolyCuts().polygon(), -11);
        PolyCuts one = new PolyCuts();
        one.corner(1, 1);
        DUE.is("the row of another", new PolyCuts().corner(0, 0), 1);
    }

    private static void promise2BehindTheRow() {
        DUE.says("corner: A CORNER comes behind THE ROW: how many it has");
        PolyCuts x = new PolyCuts();
        int[] xy = Due.convex(14);
        for (int i = 0; i < 14; i++) {
            DUE.is("corner " + i, x.corner(xy[2 * i], xy[2 * i + 1]), i + 1);
        }
        x.polygon();
        for (int i = 0; i < 14; i++) {
            DUE.is("x of the one told as " + i, x.at(0, i, 0), xy[2 * i]);
            DUE.is("y of the one told as " + i, x.at(0, i, 1), xy[2 * i + 1]);
        }
    }

    private static void promise2Outside() {
        DUE.says("corner: OUTSIDE");
        PolyCuts x = new PolyCuts();
        x.corner(0, 0);
        DUE.is("x", x.corner(1001, 0), OUTSIDE);
        x.corner(1000, 0);
        DUE.is("y", x.corner(0, -1001), OUTSIDE);
        x.corner(0, 1000);
        DUE.is("both", x.corner(LEAST, GREATEST), OUTSIDE);
        DUE.is("a polygon without these", x.polygon(), 0);
        DUE.is("its corners", x.count(0), 3);
        DUE.is("its area", x.area(0), 1000000);
    }

    private static void promise2Room() {
        DUE.says("corner: ROOM");
        PolyCuts x = new PolyCuts();
        int[] xy = Due.convex(14);
        for (int i = 0; i < 28; i += 2) {
            x.corner(xy[i], xy[i + 1]);
        }
        DUE.is("the fifteenth", x.corner(-5, 5), ROOM);
        DUE.is("once more", x.corner(-5, 5), ROOM);
        DUE.is("OUTSIDE fits before ROOM", x.corner(1001, 0), OUTSIDE);
        DUE.is("a polygon without these", x.polygon(), 0);
        DUE.is("its last corner", x.at(0, 13, 0), 13);
        DUE.is("then there is room", x.corner(-5, 5), 1);
    }

    private static void promise3Number() {
        DUE.says("polygon: THE ROW, which is empty then, is a POLYGON: its number");
        PolyCuts x = new PolyCuts();
        DUE.is("the first", Due.make(x, Due.convex(14)), 0);
        DUE.is("nothing is left in the row", x.polygon(), -11);
        DUE.is("the second, with fewer corners", Due.make(x, TRIANGLE), 1);
        DUE.is("none of the first's are left in it", x.count(1), 3);
        DUE.is("the first has its own still", x.count(0), 14);
        x.drop();
        x.drop();
        DUE.is("the first once more", Due.make(x, SQUARE), 0);
        DUE.is("nothing is left of the one that had its number", x.area(0), 32);
    }

    private static void promise3Fault() {
        DUE.says("polygon: -10 less the FAULT");
        PolyCuts x = new PolyCuts();
        DUE.is("fault 1", Due.make(x, 0, 0, 1, 0), -11);
        DUE.is("the row is empty then", x.corner(0, 0), 1);
        DUE.is("fault 2", Due.make(x, 1, 1, 2, 2), -12);
        DUE.is("the row is empty then", x.corner(0, 0), 1);
        DUE.is("fault 3", Due.make(x, 4, 4, 4, 0, 0, 4), -13);
        DUE.is("the row is empty then", x.corner(0, 0), 1);
        DUE.is("none of them is a polygon", x.count(NONE), 0);
        DUE.is("the next number is not used up", Due.make(x, 1, 0, 0, 1), 0);
    }

    private static void promise3Room() {
        DUE.says("polygon: ROOM (asked first; THE ROW stays)");
        PolyCuts x = full();
        DUE.is("before fault 1", x.polygon(), ROOM);
        x.corner(3, 3);
        x.corner(5, 5);
        DUE.is("before fault 1, of two", x.polygon(), ROOM);
        x.corner(7, 7);
        DUE.is("before fault 2", x.polygon(), ROOM);
        DUE.is("the row stays", x.corner(0, 9), 4);
        x.drop();
        DUE.is("its fault comes when there is room", x.polygon(), -12);
        DUE.is("its corner", x.fault(0), 1);
        Due.make(x, SQUARE);
        DUE.is("before fault 3", Due.make(x, BOW_TIE), ROOM);
        DUE.is("before a number", Due.make(x), ROOM);
        DUE.is("how many there are", x.count(NONE), 8);
        x.drop();
        DUE.is("its fault comes when there is room", x.polygon(), -13);
        DUE.is("the row is empty then", x.corner(0, 0), 1);
    }

    private static void promise4Latest() {
        DUE.says("fault: Of the FAULT of the latest polygon()");
        PolyCuts x = new PolyCuts();
        Due.make(x, 0, 0, 2, 0, 4, 0, 4, 4);
        faultIs(x, "of a corner", 1, NONE);
        Due.make(x, BOW_TIE);
        faultIs(x, "of edges", 0, 2);
        Due.make(x, 4, 0, 4, 4, 0, 0, 2, 0);
        faultIs(x, "of a corner once more", 3, NONE);
        x.corner(0, 0);
        x.corner(0, 2000);
        x.drop();
        x.fault(7);
        faultIs(x, "after calls that are no polygon()", 3, NONE);
    }

    private static void promise4NotRoom() {
        DUE.says("fault: that was not ROOM");
        PolyCuts x = full();
        x.drop();
        Due.make(x, BOW_TIE);
        faultIs(x, "of edges", 0, 2);
        x.drop();
        faultIs(x, "drop() leaves it", 0, 2);
        Due.make(x, SQUARE);
        Due.make(x, SQUARE);
        faultIs(x, "of none", NONE, NONE);
        DUE.is("no room", Due.make(x, 0, 0, 2, 2, 4, 4), ROOM);
        faultIs(x, "ROOM has no fault", NONE, NONE);
        x.drop();
        DUE.is("the row that stayed", x.polygon(), -12);
        faultIs(x, "of the row that stayed", 0, NONE);
    }

    private static void promise4NoneElse() {
        DUE.says("fault: NONE else");
        PolyCuts x = new PolyCuts();
        faultIs(x, "before any polygon()", NONE, NONE);
        Due.make(x, BOW_TIE);
        x.polygon();
        faultIs(x, "of too few", NONE, NONE);
        Due.make(x, BOW_TIE);
        Due.make(x, SQUARE);
        faultIs(x, "of a polygon", NONE, NONE);
        Due.make(x, BOW_TIE);
        Due.make(x, 2, 2, 2, 2, 0, 5);
        faultIs(x, "of a corner there is no later edge", 0, NONE);
    }

    private static void promise4Outside() {
        DUE.says("fault: OUTSIDE: what");
        PolyCuts x = new PolyCuts();
        for (int round = 0; round < 2; round++) {
            for (int what : new int[] {-1, 2, 3, -2, LEAST, GREATEST}) {
                DUE.is("fault(" + what + ")", x.fault(what), OUTSIDE);
            }
            Due.make(x, BOW_TIE);
        }
    }

    private static void promise5Drop() {
        DUE.says("drop: The last POLYGON goes: how many there are. UNKNOWN: there is none");
        PolyCuts x = full();
        for (int left = 7; left >= 0; left--) {
            DUE.is("drop()", x.drop(), left);
            DUE.is("the last one is gone", x.count(left), UNKNOWN);
            DUE.is("those before it are there", x.count(left - 1), left == 0 ? 0 : 4);
        }
        DUE.is("there is none", x.drop(), UNKNOWN);
        DUE.is("nor is there then", x.drop(), UNKNOWN);
        DUE.is("there are not fewer than none", x.count(NONE), 0);
        DUE.is("the next is the first", Due.make(x, ARROW), 0);
        DUE.is("with its diagonal, which stays", x.diagonal(0, 0, 2), 1);
        DUE.is("it goes, too", x.drop(), 0);
        Due.make(x, SQUARE);
        DUE.is("nothing of it is left: this one's does not stay", x.diagonal(0, 0, 2), 0);
        x.drop();
        x.corner(0, 0);
        DUE.is("a row is no polygon", x.drop(), UNKNOWN);
        DUE.is("and stays", x.corner(1, 0), 2);
    }

    private static void promise6Count() {
        DUE.says("count: How many POLYGONS there are (p = NONE), CORNERS a POLYGON has. UNKNOWN");
        PolyCuts x = new PolyCuts();
        for (int p = 0; p < 8; p++) {
            DUE.is("count(NONE)", x.count(NONE), p);
            DUE.is("the one that is not yet there", x.count(p), UNKNOWN);
            Due.make(x, Due.convex(p + 3));
            DUE.is("count(" + p + ")", x.count(p), p + 3);
        }
        DUE.is("count(NONE) of a full one", x.count(NONE), 8);
        for (int p : new int[] {8, -2, -3, LEAST, GREATEST}) {
            DUE.is("count(" + p + ")", x.count(p), UNKNOWN);
        }
        x.corner(0, 0);
        DUE.is("a row is not counted", x.count(8), UNKNOWN);
    }

    private static void promise7At() {
        DUE.says("at: (Of several meanings of an answer: it may be a number below 0.)");
        PolyCuts x = Due.holding(-1, -2, -3, -4, 5, -3);
        int[] due = {-1, -2, -3, -4, 5, -3};
        for (int i = 0; i < 6; i++) {
            DUE.is("at(0, " + i / 2 + ", " + i % 2 + ")", x.at(0, i / 2, i % 2), due[i]);
        }
        Due.make(x, GREATEST_SQUARE);
        for (int i = 0; i < 8; i++) {
            DUE.is("at(1, " + i / 2 + ", " + i % 2 + ")", x.at(1, i / 2, i % 2), GREATEST_SQUARE[i]);
        }
        DUE.is("a corner that only the other has", x.at(0, 3, 0), UNKNOWN);
        DUE.is("the other's last corner", x.at(1, 3, 0), -1000);
        DUE.is("one too far", x.at(1, 4, 0), UNKNOWN);
        DUE.is("one too near", x.at(1, -1, 0), UNKNOWN);
    }

    private static void promise8Area() {
        DUE.says("area: Twice the area, below 0 if it goes RIGHT; 0: UNKNOWN");
        PolyCuts x = Due.holding(TRIANGLE);
        Due.make(x, Due.backward(TRIANGLE));
        Due.make(x, GREATEST_SQUARE);
        Due.make(x, Due.backward(GREATEST_SQUARE));
        int[] due = {1, -1, 8000000, -8000000};
        for (int p = 0; p < 4; p++) {
            DUE.is("area(" + p + ")", x.area(p), due[p]);
        }
        for (int p : new int[] {-1, -2, 4, 8, LEAST, GREATEST}) {
            DUE.is("area(" + p + ")", x.area(p), 0);
        }
        x.drop();
        DUE.is("of one that went", x.area(3), 0);
    }

    private static void centroidIs(String what, int[] xy, long... due) {
        for (int[] told : new int[][] {xy, Due.backward(xy)}) {
            PolyCuts x = Due.holding(told);
            for (int i = 0; i < 4; i++) {
                DUE.is(what + ": centroid(0, " + i / 2 + ", " + i % 2 + ")", x.centroid(0, i / 2, i % 2), due[i]);
            }
        }
    }

    private static void promise9LeastTerms() {
        DUE.says("centroid: as a fraction in least terms: what is above (side 0; perhaps below 0), below (1; above 0)");
        centroidIs("a third", TRIANGLE, 1, 3, 1, 3);
        centroidIs("below 0", new int[] {0, 0, -1, 0, 0, -1}, -1, 3, -1, 3);
        centroidIs("0 in least terms", GREATEST_SQUARE, 0, 1, 0, 1);
        centroidIs("whole", SQUARE, 2, 1, 2, 1);
        centroidIs("0 along one axis", new int[] {-3, 1, 3, 1, 0, 2}, 0, 1, 4, 3);
        centroidIs("as far as can be", new int[] {1000, 1000, 999, 1000, 1000, 999}, 2999, 3, 2999, 3);
        centroidIs("beyond the numbers of an int", new int[] {-1000, -1000, 1, -1000, 0, 999, -1000, 1000},
                -5998998001L, 12002997, -4999999, 12002997);
    }

    private static void promise9Zero() {
        DUE.says("centroid: 0: UNKNOWN, OUTSIDE");
        PolyCuts x = Due.holding(SQUARE);
        for (int wild : new int[] {-1, 2, -2, LEAST, GREATEST}) {
            DUE.is("polygon " + wild, x.centroid(wild, 0, 0), 0);
            DUE.is("polygon " + wild + ", below", x.centroid(wild, 0, 1), 0);
            DUE.is("axis " + wild, x.centroid(0, wild, 0), 0);
            DUE.is("axis " + wild + ", below", x.centroid(0, wild, 1), 0);
            DUE.is("side " + wild, x.centroid(0, 0, wild), 0);
            DUE.is("side " + wild + ", y", x.centroid(0, 1, wild), 0);
            DUE.is("all " + wild, x.centroid(wild, wild, wild), 0);
        }
        DUE.is("the polygon that is not yet there", x.centroid(1, 0, 1), 0);
    }

    private static void promise10Points() {
        DUE.says("points: Points in whole numbers on its EDGES (what = 0), inside (1). UNKNOWN; OUTSIDE: what");
        PolyCuts x = Due.holding(TRIANGLE);
        DUE.is("on, the fewest", x.points(0, 0), 3);
        DUE.is("inside, none", x.points(0, 1), 0);
        Due.make(x, Due.backward(GREATEST_SQUARE));
        DUE.is("on, the most of a square", x.points(1, 0), 8000);
        DUE.is("inside, the most", x.points(1, 1), 1999 * 1999);
        Due.make(x, -1000, -1000, 1000, 999, 999, 998);
        DUE.is("on a thin one", x.points(2, 0), 3);
        DUE.is("inside a thin one", x.points(2, 1), 0);
        Due.make(x, 0, 0, 3, 0, 0, 3);
        DUE.is("each corner once", x.points(3, 0), 9);
        DUE.is("one inside", x.points(3, 1), 1);
        for (int wild : new int[] {-1, 2, LEAST, GREATEST}) {
            DUE.is("what " + wild, x.points(0, wild), OUTSIDE);
            DUE.is("polygon and what", x.points(4, wild), UNKNOWN);
        }
        for (int wild : new int[] {-1, 4, LEAST, GREATEST}) {
            DUE.is("polygon " + wild, x.points(wild, 0), UNKNOWN);
        }
    }

    private static void promise11In() {
        DUE.says("in: A point (-3000 to 3000) is outside (0), on an EDGE (1), inside (2). UNKNOWN; OUTSIDE");
        PolyCuts x = Due.holding(GREATEST_SQUARE);
        for (int most : new int[] {-3000, 3000}) {
            DUE.is("x " + most, x.in(0, most, 0), 0);
            DUE.is("y " + most, x.in(0, 0, most), 0);
            DUE.is("both " + most, x.in(0, most, most), 0);
            DUE.is("both, crosswise", x.in(0, most, -most), 0);
            int beyond = most + most / 3000;
            DUE.is("x " + beyond, x.in(0, beyond, 0), OUTSIDE);
            DUE.is("y " + beyond, x.in(0, 0, beyond), OUTSIDE);
            DUE.is("both " + beyond, x.in(0, beyond, beyond), OUTSIDE);
            DUE.is("UNKNOWN fits first", x.in(1, beyond, beyond), UNKNOWN);
        }
        for (int wild : new int[] {LEAST, LEAST + 1, GREATEST}) {
            DUE.is("x " + wild, x.in(0, wild, 0), OUTSIDE);
            DUE.is("y " + wild, x.in(0, 0, wild), OUTSIDE);
            DUE.is("polygon " + wild, x.in(wild, 0, 0), UNKNOWN);
        }
        inAndOn(x);
    }

    private static void inAndOn(PolyCuts x) {
        DUE.is("a corner", x.in(0, -1000, 1000), 1);
        DUE.is("an edge's middle", x.in(0, 1000, 0), 1);
        DUE.is("on an edge's line, one too far", x.in(0, 1001, 1000), 0);
        DUE.is("one before the edge", x.in(0, 999, -999), 2);
        DUE.is("one beyond the edge", x.in(0, -1001, 0), 0);
        Due.make(x, ARROW);
        // At the height of corner 1 a line goes through it; at the height of 0 through two corners.
        DUE.is("left of corner 1, inside", x.in(1, 1, 1), 2);
        DUE.is("left of corner 1, outside", x.in(1, 0, 1), 0);
        DUE.is("below corner 1", x.in(1, 4, 0), 0);
        DUE.is("corner 1", x.in(1, 4, 1), 1);
        DUE.is("above corner 1", x.in(1, 4, 2), 2);
        DUE.is("beside the top", x.in(1, 3, 8), 0);
        DUE.is("before corner 0", x.in(1, -1, 0), 0);
        // Nearer to a long edge than any other whole point, on either side.
        Due.make(x, -1000, -1000, 1000, -1000, 1000, 999);
        DUE.is("just outside", x.in(2, -999, -999), 0);
        DUE.is("just inside", x.in(2, 999, 998), 2);
    }

    private static void promise12Sees() {
        DUE.says("sees: Two CORNERS are NEIGHBOURS (2), SEE each other (1), neither (0). UNKNOWN; OUTSIDE: they are one");
        PolyCuts x = Due.holding(ARROW);
        DUE.is("neighbours", x.sees(0, 3, 0), 2);
        DUE.is("see each other", x.sees(0, 3, 1), 1);
        DUE.is("neither", x.sees(0, 2, 0), 0);
        for (int i = 0; i < 4; i++) {
            DUE.is("they are one, " + i, x.sees(0, i, i), OUTSIDE);
        }
        for (int wild : new int[] {4, -1, LEAST, GREATEST}) {
            DUE.is("they are one that there is not, " + wild, x.sees(0, wild, wild), UNKNOWN);
            DUE.is("i " + wild, x.sees(0, wild, 0), UNKNOWN);
            DUE.is("j " + wild, x.sees(0, 3, wild), UNKNOWN);
            DUE.is("polygon " + wild, x.sees(wild, 0, 1), UNKNOWN);
            DUE.is("they are one, polygon " + wild, x.sees(wild, 1, 1), UNKNOWN);
        }
    }

    private static void promise13Way() {
        DUE.says("way: How many steps THE WAY has (0: to itself). UNKNOWN");
        PolyCuts x = Due.holding(Due.convex(14));
        Due.make(x, ARROW);
        for (int i = 0; i < 14; i++) {
            DUE.is("to itself, " + i, x.way(0, i, i), 0);
        }
        DUE.is("along an edge", x.way(0, 13, 0), 1);
        DUE.is("two steps", x.way(1, 0, 2), 2);
        DUE.is("a corner that only the other has", x.way(1, 0, 4), UNKNOWN);
        for (int wild : new int[] {14, -1, LEAST, GREATEST}) {
            DUE.is("from " + wild, x.way(0, wild, 0), UNKNOWN);
            DUE.is("to " + wild, x.way(0, 0, wild), UNKNOWN);
            DUE.is("to itself, that there is not, " + wild, x.way(0, wild, wild), UNKNOWN);
            DUE.is("polygon " + wild, x.way(wild, 0, 0), UNKNOWN);
        }
    }

    private static void promise14Step() {
        DUE.says("step: CORNER k of THE WAY (k = 0: from). NONE: there is none such. UNKNOWN");
        PolyCuts x = Due.holding(ARROW);
        DUE.is("k = 0", x.step(0, 2, 0, 0), 2);
        DUE.is("k = 1", x.step(0, 2, 0, 1), 1);
        DUE.is("the last k", x.step(0, 2, 0, 2), 0);
        DUE.is("one behind", x.step(0, 2, 0, 3), NONE);
        DUE.is("one before", x.step(0, 2, 0, -1), NONE);
        DUE.is("far behind", x.step(0, 2, 0, GREATEST), NONE);
        DUE.is("far before", x.step(0, 2, 0, LEAST), NONE);
        DUE.is("to itself, k = 0", x.step(0, 3, 3, 0), 3);
        DUE.is("to itself, one behind", x.step(0, 3, 3, 1), NONE);
        DUE.is("to itself, one before", x.step(0, 3, 3, -1), NONE);
        for (int wild : new int[] {4, -1, LEAST, GREATEST}) {
            DUE.is("from " + wild, x.step(0, wild, 0, 0), UNKNOWN);
            DUE.is("to " + wild, x.step(0, 0, wild, 0), UNKNOWN);
            DUE.is("polygon " + wild, x.step(wild, 0, 0, 0), UNKNOWN);
            DUE.is("UNKNOWN, though no k is there", x.step(0, 0, wild, wild), UNKNOWN);
        }
    }

    private static void unknownPolygons(String call, long[] got) {
        for (long answer : got) {
            DUE.is(call, answer, UNKNOWN);
        }
    }

    private static void promise15Triangulations() {
        DUE.says("triangulations: In how many ways it parts into TRIANGLES. UNKNOWN");
        DUE.is("a triangle is parted already", Due.holding(TRIANGLE).triangulations(0), 1);
        DUE.is("a square", Due.holding(SQUARE).triangulations(0), 2);
        DUE.is("an arrow", Due.holding(ARROW).triangulations(0), 1);
        DUE.is("the most", Due.holding(Due.convex(14)).triangulations(0), 208012);
        DUE.is("seven against seven corners", Due.holding(narrowed()).triangulations(0), 924);
        DUE.is("the most, going right", Due.holding(Due.backward(Due.convex(14))).triangulations(0), 208012);
        PolyCuts x = Due.holding(SQUARE);
        unknownPolygons("triangulations", new long[] {x.triangulations(1), x.triangulations(NONE),
            x.triangulations(8), x.triangulations(LEAST), x.triangulations(GREATEST)});
    }

    /** Two sides that bend inward, so that all diagonals go across: up the right side, down the left one. */
    private static int[] narrowed() {
        int[] xy = new int[28];
        for (int i = 0; i < 7; i++) {
            int inward = 9 - (i - 3) * (i - 3);
            xy[2 * i] = 1000 - inward;
            xy[2 * i + 1] = 300 * (i - 3);
            xy[26 - 2 * i] = inward - 1000;
            xy[27 - 2 * i] = 300 * (i - 3);
        }
        return xy;
    }

    /** Five that are level, and six from each height to the next. */
    private static int sumAcross() {
        int sum = 0;
        for (int k = -2; k <= 2; k++) {
            sum += (1982 + 2 * k * k) * (1982 + 2 * k * k);
        }
        for (int k = -3; k < 3; k++) {
            int across = 1982 + k * k + (k + 1) * (k + 1);
            sum += across * across + 300 * 300;
        }
        return sum;
    }

    private static void promise16Best() {
        DUE.says("best: The sum of squares of THE BEST. UNKNOWN");
        DUE.is("a triangle has no diagonal", Due.holding(TRIANGLE).best(0), 0);
        DUE.is("the longest diagonal", Due.holding(GREATEST_SQUARE).best(0), 8000000);
        DUE.is("eleven long ones", Due.holding(narrowed()).best(0), sumAcross());
        PolyCuts x = Due.holding(-1000, -1000, 0, -999, 1000, -1000, 1000, 1000, -1000, 1000);
        DUE.is("two long ones", x.best(0), 2 * (1000 * 1000 + 1999 * 1999));
        unknownPolygons("best", new long[] {x.best(1), x.best(NONE), x.best(8), x.best(LEAST), x.best(GREATEST)});
    }

    private static void promise17Triangle() {
        DUE.says("triangle: NONE: there is none such. UNKNOWN; OUTSIDE: what");
        PolyCuts x = Due.holding(TRIANGLE);
        Due.make(x, Due.convex(14));
        for (int what = 0; what < 3; what++) {
            DUE.is("the only one", x.triangle(0, 0, what), what);
            DUE.is("one too many", x.triangle(0, 1, what), NONE);
            DUE.is("one too few", x.triangle(0, -1, what), NONE);
            DUE.holds("the last of twelve", x.triangle(1, 11, what) >= 0);
            DUE.is("the thirteenth", x.triangle(1, 12, what), NONE);
            DUE.is("the greatest", x.triangle(1, GREATEST, what), NONE);
            DUE.is("the least", x.triangle(1, LEAST, what), NONE);
            DUE.is("no polygon", x.triangle(2, 0, what), UNKNOWN);
        }
        for (int wild : new int[] {-1, 3, LEAST, GREATEST}) {
            DUE.is("what " + wild, x.triangle(0, 0, wild), OUTSIDE);
            DUE.is("UNKNOWN fits before OUTSIDE", x.triangle(2, 0, wild), UNKNOWN);
            DUE.is("OUTSIDE fits before NONE", x.triangle(0, 1, wild), OUTSIDE);
            DUE.is("UNKNOWN fits before NONE", x.triangle(2, wild, 0), UNKNOWN);
        }
    }

    private static void promise18Diagonal() {
        DUE.says("diagonal: NONE: there is none such. UNKNOWN; OUTSIDE: what");
        PolyCuts x = Due.holding(TRIANGLE);
        Due.make(x, ARROW);
        Due.make(x, Due.convex(14));
        int[] due = {1, 3, 1};
        for (int what = 0; what < 3; what++) {
            DUE.is("a triangle has none", x.diagonal(0, 0, what), NONE);
            DUE.is("the only one", x.diagonal(1, 0, what), due[what]);
            DUE.is("one too many", x.diagonal(1, 1, what), NONE);
            DUE.is("one too few", x.diagonal(1, -1, what), NONE);
            DUE.holds("the last of eleven", x.diagonal(2, 10, what) >= 0);
            DUE.is("the twelfth", x.diagonal(2, 11, what), NONE);
            DUE.is("the greatest", x.diagonal(2, GREATEST, what), NONE);
            DUE.is("the least", x.diagonal(2, LEAST, what), NONE);
            DUE.is("no polygon", x.diagonal(3, 0, what), UNKNOWN);
        }
        for (int wild : new int[] {-1, 3, LEAST, GREATEST}) {
            DUE.is("what " + wild, x.diagonal(1, 0, wild), OUTSIDE);
            DUE.is("UNKNOWN fits before OUTSIDE", x.diagonal(3, 0, wild), UNKNOWN);
            DUE.is("OUTSIDE fits before NONE", x.diagonal(0, 0, wild), OUTSIDE);
            DUE.is("UNKNOWN fits before NONE", x.diagonal(3, wild, 0), UNKNOWN);
        }
    }

    private static void promise19Parts() {
        DUE.says("parts: How many PARTS there are when it is MERGED. UNKNOWN");
        DUE.is("a triangle", Due.holding(TRIANGLE).parts(0), 1);
        DUE.is("the most corners, convex", Due.holding(Due.backward(Due.convex(14))).parts(0), 1);
        DUE.is("an arrow", Due.holding(ARROW).parts(0), 2);
        PolyCuts x = Due.holding(SQUARE);
        unknownPolygons("parts", new long[] {x.parts(1), x.parts(NONE), x.parts(8), x.parts(LEAST), x.parts(GREATEST)});
    }

    private static void promise20Same() {
        DUE.says("same: Whether two POLYGONS are the SAME (1), OVER (2), neither (0). UNKNOWN");
        PolyCuts x = Due.holding(0, 0, 2, 0, 0, 3);
        Due.make(x, 9, 9, 7, 9, 9, 6);
        Due.make(x, 0, 0, -2, 0, 0, 3);
        Due.make(x, 0, 0, 2, 0, 0, 4);
        DUE.is("itself", x.same(0, 0), 1);
        DUE.is("SAME", x.same(0, 1), 1);
        DUE.is("OVER", x.same(0, 2), 2);
        DUE.is("neither", x.same(0, 3), 0);
        for (int wild : new int[] {4, -1, 8, LEAST, GREATEST}) {
            DUE.is("p " + wild, x.same(wild, 0), UNKNOWN);
            DUE.is("q " + wild, x.same(0, wild), UNKNOWN);
            DUE.is("both " + wild, x.same(wild, wild), UNKNOWN);
        }
        x.drop();
        DUE.is("one that went", x.same(0, 3), UNKNOWN);
    }

    private static void promise21Onto() {
        DUE.says("onto: The least CORNER of q onto which CORNER 0 of p can come, as same() tells; "
                + "NONE: they are neither. UNKNOWN");
        PolyCuts x = Due.holding(0, 0, 2, 0, 0, 3);
        Due.make(x, 7, 9, 9, 6, 9, 9);
        Due.make(x, -2, 0, 0, 0, 0, 3);
        Due.make(x, 0, 0, 2, 0, 0, 4);
        Due.make(x, SQUARE);
        DUE.is("itself", x.onto(0, 0), 0);
        DUE.is("SAME: its last corner", x.onto(0, 1), 2);
        DUE.is("OVER: its middle corner", x.onto(0, 2), 1);
        DUE.is("neither", x.onto(0, 3), NONE);
        DUE.is("neither, with a corner more", x.onto(0, 4), NONE);
        DUE.is("the least of four", x.onto(4, 4), 0);
        for (int wild : new int[] {5, -1, 8, LEAST, GREATEST}) {
            DUE.is("p " + wild, x.onto(wild, 0), UNKNOWN);
            DUE.is("q " + wild, x.onto(0, wild), UNKNOWN);
            DUE.is("both " + wild, x.onto(wild, wild), UNKNOWN);
        }
        // Corner 0 comes onto 2 when turned, onto 1 only when turned over: same() tells of turning.
        Due.make(x, 0, 0, 4, 0, 3, 5, 1, 5);
        Due.make(x, 3, 5, 1, 5, 0, 0, 4, 0);
        DUE.is("SAME, and by turning over too", x.same(5, 6), 1);
        DUE.is("as same() tells", x.onto(5, 6), 2);
    }

    private static void symmetriesAre(String what, int turned, int all, int... xy) {
        PolyCuts x = Due.holding(xy);
        DUE.is(what + ": symmetries(0, 0)", x.symmetries(0, 0), turned);
        DUE.is(what + ": symmetries(0, 1)", x.symmetries(0, 1), all);
    }

    private static void promise22Symmetries() {
        DUE.says("symmetries: by moving and turning (how = 0; staying is one), by these and turning over (1)");
        symmetriesAre("staying alone", 1, 1, 0, 0, 2, 0, 0, 3);
        symmetriesAre("staying and turning over", 1, 2, TRIANGLE);
        symmetriesAre("a half turn and none over", 2, 2, 0, 0, 3, 0, 4, 2, 1, 2);
        symmetriesAre("the most of a square", 4, 8, GREATEST_SQUARE);
        symmetriesAre("going right", 4, 8, Due.backward(SQUARE));
        symmetriesAre("quarter turns and none over", 4, 4, 3, 1, 1, 1, -1, 3, -1, 1, -3, -1, -1, -1, 1, -3, 1, -1);
        DUE.says("symmetries: UNKNOWN; OUTSIDE: how");
        PolyCuts x = Due.holding(SQUARE);
        for (int wild : new int[] {-1, 2, LEAST, GREATEST}) {
            DUE.is("how " + wild, x.symmetries(0, wild), OUTSIDE);
            DUE.is("polygon " + wild, x.symmetries(wild, 0), UNKNOWN);
            DUE.is("UNKNOWN fits first", x.symmetries(1, wild), UNKNOWN);
        }
    }
}
