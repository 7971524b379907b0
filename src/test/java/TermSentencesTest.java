/** A test of its own for each sentence of the document's terms that names a boundary case. */
public final class TermSentencesTest {
    private static final Due DUE = new Due();
    private static final int NONE = PolyCuts.NONE, OUTSIDE = PolyCuts.OUTSIDE, ROOM = PolyCuts.ROOM;

    private static final int[] SQUARE = {0, 0, 4, 0, 4, 4, 0, 4};

    /** A corridor, one wide, that turns inward five times: fourteen corners, its ends 13, 0 and 6, 7. */
    private static final int[] SPIRAL = {0, 0, 10, 0, 10, 10, 0, 10, 0, 3, 7, 3, 7, 7,
        6, 7, 6, 4, 1, 4, 1, 9, 9, 9, 9, 1, 0, 1};

    /** A triangle 0, 3, 6 with a square on each of its legs; at corner 3 the angle is three quarters. */
    private static final int[] TWO_SQUARES = {0, 4, -4, 4, -4, 0, 0, 0, 0, -4, 4, -4, 4, 0};

    /** A bar with three teeth upward; corners 3, 4, 6, 7 lie on one line. */
    private static final int[] COMB = {0, 0, 10, 0, 10, 6, 8, 2, 6, 2, 5, 6, 4, 2, 2, 2, 0, 6};

    public static void main(String[] args) {
        fiveHundredAndTwelveCalls();
        polygonsAtMost();
        cornersAtMost();
        cornersFromTo();
        toTheRightAndUpward();
        edgeOfTheLast();
        fewerThanThree();
        onOneLine();
        twoOfTheseTheSame();
        leastSuchCorner();
        edgesWithAPointInCommon();
        edgesThatFollow();
        edgesNearlyInCommon();
        leastEdge();
        firstOfTheseFaults();
        leftElseRight();
        cornersKeepTheirNumbers();
        neighbours();
        seeEachOther();
        seeThroughNoEdge();
        seeNearly();
        fewestSteps();
        leastSecondAndThird();
        asManyAsThereCanBe();
        leastSum();
        triangleNumbers();
        leastThirdCorners();
        diagonalNumbers();
        atMostStraight();
        nearlyStraight();
        atBothCorners();
        diagonalByDiagonal();
        parts();
        movedAndTurned();
        onlyTurnedOver();
        DUE.end();
    }

    private static void fiveHundredAndTwelveCalls() {
        DUE.says("An object is used for at most 512 calls after it has been made");
        PolyCuts x = new PolyCuts();
        int calls = 0;
        for (int p = 0; p < 8; p++) {
            Due.make(x, SPIRAL);
            calls += 15;
        }
        for (; calls < 509; calls++) {
            x.step(calls % 8, calls % 14, calls / 14 % 14, calls % 7);
        }
        DUE.is("call 510", x.drop(), 7);
        DUE.is("call 511", x.area(6), 86);
        DUE.is("call 512", x.step(6, 0, 7, 6), 7);
    }

    // ---- 1 POLYGONS

    private static void polygonsAtMost() {
        DUE.says("POLYGONS (8 at most)");
        PolyCuts x = new PolyCuts();
        for (int p = 0; p < 8; p++) {
            DUE.is("polygon " + p, Due.make(x, SQUARE), p);
        }
        DUE.is("the ninth", Due.make(x, SQUARE), ROOM);
        DUE.is("how many there are", x.count(NONE), 8);
        DUE.is("the eighth is there", x.count(7), 4);
        x.drop();
        DUE.is("the eighth once more", x.polygon(), 7);
        DUE.is("and again no ninth", x.polygon(), ROOM);
    }

    private static void cornersAtMost() {
        DUE.says("THE ROW are CORNERS that are told, 14 at most");
        PolyCuts x = new PolyCuts();
        for (int round = 0; round < 2; round++) {
            for (int i = 0; i < 14; i++) {
                DUE.is("corner " + i, x.corner(SPIRAL[2 * i], SPIRAL[2 * i + 1]), i + 1);
            }
            DUE.is("the fifteenth", x.corner(-1, 0), ROOM);
            DUE.is("a polygon of fourteen", x.polygon(), round);
            DUE.is("it has all of them and no more", x.count(round), 14);
            DUE.is("the last one's place", x.at(round, 13, 1), 1);
        }
    }

    private static void cornersFromTo() {
        DUE.says("x and y from -1000 to 1000");
        for (int most : new int[] {-1000, 1000}) {
            PolyCuts x = new PolyCuts();
            DUE.is("x " + most, x.corner(most, 0), 1);
            DUE.is("y " + most, x.corner(0, most), 2);
            DUE.is("both " + most, x.corner(most, most), 3);
            DUE.is("x one from " + most + " on the far side", x.corner(most + most / 1000, 0), OUTSIDE);
            DUE.is("y one from " + most + " on the far side", x.corner(0, most + most / 1000), OUTSIDE);
            DUE.is("one far, one near", x.corner(most, most + most / 1000), OUTSIDE);
            DUE.is("none of these came", x.corner(-most, -most), 4);
        }
        for (int wild : new int[] {Integer.MIN_VALUE, Integer.MIN_VALUE + 1, -2000000, 2000000, Integer.MAX_VALUE}) {
            PolyCuts x = new PolyCuts();
            DUE.is("x " + wild, x.corner(wild, 0), OUTSIDE);
            DUE.is("y " + wild, x.corner(0, wild), OUTSIDE);
            DUE.is("both " + wild, x.corner(wild, wild), OUTSIDE);
        }
    }

    private static void toTheRightAndUpward() {
        DUE.says("(x to the right, y upward)");
        DUE.is("right, then upward, goes left", Due.holding(0, 0, 1, 0, 1, 1).area(0), 1);
        DUE.is("upward, then right, goes right", Due.holding(0, 0, 0, 1, 1, 1).area(0), -1);
    }

    private static void edgeOfTheLast() {
        DUE.says("EDGE i goes from CORNER i to the next one (of the last to CORNER 0)");
        PolyCuts x = Due.holding(SQUARE);
        DUE.is("a point on the last edge", x.in(0, 0, 2), 1);
        DUE.is("its ends are neighbours", x.sees(0, 3, 0), 2);
        DUE.is("its points are counted", x.points(0, 0), 16);
        DUE.is("one step", x.way(0, 0, 3), 1);
        PolyCuts y = new PolyCuts();
        DUE.is("the last edge meets edge 1", Due.make(y, 0, 0, 6, 0, 0, 6, 6, 6, 3, 9), -13);
        faultIs(y, "edge 1", 1, 4);
    }

    private static void faultIs(PolyCuts x, String what, int first, int second) {
        DUE.is(what + ": fault(0)", x.fault(0), first);
        DUE.is(what + ": fault(1)", x.fault(1), second);
    }

    private static void rowIs(String what, int due, int first, int second, int... xy) {
        PolyCuts x = new PolyCuts();
        DUE.is(what + ": polygon()", Due.make(x, xy), due);
        faultIs(x, what, first, second);
        DUE.is(what + ": the row is empty then", x.corner(1, 1), 1);
        DUE.is(what + ": polygons", x.count(NONE), due == 0 ? 1 : 0);
    }

    private static void fewerThanThree() {
        DUE.says("1 it has fewer than 3 CORNERS");
        rowIs("no corner", -11, NONE, NONE);
        rowIs("one", -11, NONE, NONE, 5, 5);
        rowIs("two", -11, NONE, NONE, 5, 5, 7, 8);
        rowIs("three are enough", 0, NONE, NONE, 5, 5, 7, 8, 5, 6);
    }

    private static void onOneLine() {
        DUE.says("2 a CORNER lies on one line with the one before and the one behind");
        rowIs("between them", -12, 1, NONE, 0, 0, 2, 0, 4, 0, 4, 4);
        rowIs("beyond the one behind", -12, 1, NONE, 0, 0, 6, 0, 3, 0, 3, 5);
        rowIs("beyond the one before", -12, 1, NONE, 3, 0, 6, 0, 0, 0, 4, 5);
        rowIs("corner 0, by the last one", -12, 0, NONE, 2, 0, 4, 0, 4, 4, 0, 0);
        rowIs("the last one, by corner 0", -12, 3, NONE, 4, 0, 4, 4, 0, 0, 2, 0);
        rowIs("all three that there are", -12, 0, NONE, -1000, -1000, 0, 0, 1000, 1000);
        rowIs("the thinnest triangle has none", 0, NONE, NONE, -1000, -1000, 0, -1, 1, 0);
        rowIs("on one line, but not with these", 0, NONE, NONE, 0, 0, 2, 0, 2, 1, 4, 1, 4, 0, 6, 0, 3, 3);
    }

    private static void twoOfTheseTheSame() {
        DUE.says("(also if two of these are the same)");
        rowIs("it and the one behind", -12, 1, NONE, 0, 0, 3, 3, 3, 3, 0, 8);
        rowIs("it and the one before", -12, 0, NONE, 3, 3, 7, 0, 0, 8, 3, 3);
        rowIs("the one before and the one behind", -12, 1, NONE, 0, 0, 5, 0, 0, 0, 0, 5);
        rowIs("these round corner 0", -12, 0, NONE, 5, 0, 0, 0, 0, 5, 0, 0);
        rowIs("all three", -12, 0, NONE, 2, 2, 2, 2, 2, 2);
    }

    private static void leastSuchCorner() {
        DUE.says("the least such CORNER");
        rowIs("of 1 and 4", -12, 1, NONE, 0, 0, 4, 1, 8, 2, 8, 8, 4, 8, 0, 8);
        rowIs("of 3 and 5", -12, 3, NONE, 0, 0, 8, 0, 8, 8, 4, 8, 0, 8, 0, 4);
        rowIs("of 0 and 2", -12, 0, NONE, 0, 4, 0, 0, 4, 0, 8, 0, 8, 8, 0, 8);
    }

    private static void edgesWithAPointInCommon() {
        DUE.says("3 two EDGES that do not follow one another have a point in common");
        rowIs("they cross", -13, 0, 2, 0, 0, 4, 4, 4, 0, 0, 4);
        rowIs("a corner lies on an edge", -13, 0, 2, 0, 0, 8, 0, 8, 8, 4, 0, 0, 8);
        rowIs("two corners in one place", -13, 0, 3, 0, 0, 4, 1, 8, 0, 8, 8, 4, 1, 0, 8);
        rowIs("on one line, partly in common", -13, 0, 3, 0, 0, 6, 0, 7, -3, 8, 0, 4, 0, 4, 5);
        rowIs("on one line, one within the other", -13, 0, 3, 4, 0, 6, 0, 7, -3, 8, 0, 0, 0, 3, 5);
        rowIs("on one line, an end in common", -13, 0, 3, 0, 0, 4, 0, 6, -3, 8, 0, 4, 0, 4, 5);
        rowIs("on one line, apart", 0, NONE, NONE, 0, 0, 2, 0, 2, 2, 4, 2, 4, 0, 6, 0, 6, 3, 0, 3);
        rowIs("side by side", 0, NONE, NONE, 0, 0, 8, 0, 8, 1, 0, 1);
        rowIs("side by side, as near as can be", 0, NONE, NONE, 0, 0, 2, 1, 3, 2, 1, 1);
    }

    private static void edgesThatFollow() {
        DUE.says("3 two EDGES that do not follow one another have a point in common");
        rowIs("in a triangle all follow", 0, NONE, NONE, 0, 0, 1, 0, 0, 1);
        rowIs("in a square the last one and 0 follow", 0, NONE, NONE, SQUARE);
        rowIs("with fourteen corners, too", 0, NONE, NONE, SPIRAL);
        rowIs("the last but one and 0 do not", -13, 0, 3, 0, 0, 8, 0, 8, 8, 4, 8, 4, -4);
        rowIs("the last one and 1 do not", -13, 1, 4, 4, -4, 0, 0, 8, 0, 8, 8, 4, 8);
    }

    private static void edgesNearlyInCommon() {
        DUE.says("All of it exact.");
        // 0, 0 to 2000, 1999, moved: no whole point is nearer to that line than 1, 1 and 1999, 1998.
        rowIs("a corner nearly on the edge", 0, NONE, NONE, -1000, -1000, 1000, 999, -1000, 1000, -999, -999);
        rowIs("a corner just beyond it", -13, 0, 2, -1000, -1000, 1000, 999, -1000, 1000, 999, 998);
        rowIs("a notch that stops before the edge", 0, NONE, NONE, 0, 0, 8, 0, 8, 8, 4, 1, 0, 8);
    }

    private static void leastEdge() {
        DUE.says("the least EDGE that has one with a later one");
        int[] row = {-5, 5, 0, 0, 12, 0, 12, 6, 9, 6, 9, -3, 6, -3, 6, 6, 0, 8};
        rowIs("edge 1 with 4 and 6", -13, 1, 4, row);
        rowIs("edges 0 and 2 with 6", -13, 0, 6, 9, 6, 9, -3, 6, -3, 6, 6, 0, 8, -5, 5, 0, 0, 12, 0, 12, 6);
        // Edges 2 and 4 are nearer to one another, but 1 is less.
        rowIs("edge 1 with 6, edge 2 with 4", -13, 1, 6, 0, -9, 0, 0, 12, 0, 12, 6, 15, 6, 9, 3, 6, 3, 6, -3, 3, -9);
    }

    private static void firstOfTheseFaults() {
        DUE.says("THE ROW is none that may be, by the first of these FAULTS");
        rowIs("too few, and two the same", -11, NONE, NONE, 3, 3, 3, 3);
        rowIs("edges 0 and 2 cross, corner 3 on one line", -12, 3, NONE, 0, 0, 4, 4, 4, 0, 0, 4, -4, 8);
        rowIs("edges 0 and 2 cross, the last one on one line", -12, 5, NONE, 0, 0, 4, 4, 4, 0, 0, 4, -4, 4, -2, 2);
    }

    private static void leftElseRight() {
        DUE.says("A POLYGON goes LEFT, if its inside is to the left of its EDGES, else RIGHT");
        int[] arrow = {4, 1, 8, 0, 4, 8, 0, 0};
        DUE.is("left, though corner 0 turns right", Due.holding(arrow).area(0), 56);
        DUE.is("right, though the last corner turns left", Due.holding(Due.backward(arrow)).area(0), -56);
        DUE.is("a spiral, left", Due.holding(SPIRAL).area(0), 86);
        DUE.is("a spiral, right", Due.holding(Due.backward(SPIRAL)).area(0), -86);
    }

    private static void cornersKeepTheirNumbers() {
        DUE.says("Its CORNERS keep their numbers, from 0 on");
        int[] right = Due.backward(SPIRAL);
        PolyCuts x = Due.holding(SPIRAL);
        Due.make(x, right);
        for (int i = 0; i < 28; i++) {
            DUE.is("left, corner " + i / 2, x.at(0, i / 2, i % 2), SPIRAL[i]);
            DUE.is("right, corner " + i / 2, x.at(1, i / 2, i % 2), right[i]);
        }
    }

    // ---- 2 SIGHT

    private static void seesIs(PolyCuts x, int i, int j, int due) {
        DUE.is("sees(0, " + i + ", " + j + ")", x.sees(0, i, j), due);
        DUE.is("sees(0, " + j + ", " + i + ")", x.sees(0, j, i), due);
    }

    private static void neighbours() {
        DUE.says("Two CORNERS are NEIGHBOURS if an EDGE joins them");
        for (int n = 3; n <= 14; n++) {
            PolyCuts x = Due.holding(Due.convex(n));
            for (int i = 0; i < n; i++) {
                for (int j = 0; j < i; j++) {
                    seesIs(x, i, j, i - j == 1 || i - j == n - 1 ? 2 : 1);
                }
            }
        }
    }

    private static void seeEachOther() {
        DUE.says("Two others SEE each other if all points between them are inside (not on an EDGE)");
        PolyCuts touching = Due.holding(0, 0, 8, 0, 8, 4, 4, 2, 0, 4);
        seesIs(touching, 0, 2, 0);
        seesIs(touching, 1, 4, 0);
        seesIs(touching, 2, 4, 0);
        seesIs(touching, 0, 3, 1);
        PolyCuts comb = Due.holding(COMB);
        seesIs(comb, 3, 6, 0);
        seesIs(comb, 3, 7, 0);
        seesIs(comb, 4, 6, 1);
        seesIs(comb, 2, 5, 0);
        seesIs(comb, 0, 4, 1);
        PolyCuts spiral = Due.holding(SPIRAL);
        seesIs(spiral, 4, 13, 0);
        seesIs(spiral, 5, 7, 1);
        seesIs(spiral, 8, 10, 0);
        seesIs(Due.holding(Due.backward(SPIRAL)), 0, 9, 0);
    }

    private static void seeThroughNoEdge() {
        DUE.says("Two others SEE each other if all points between them are inside (not on an EDGE)");
        // From 0, 0 to 12, 4 one edge alone is in between, whichever number it has; the middle is inside.
        int[] hook = {0, 0, 10, 0, 10, 8, 12, 4, 14, 10, 0, 10};
        for (int first = 0; first < 6; first++) {
            int[] told = new int[12];
            for (int i = 0; i < 12; i++) {
                told[(i + 2 * first) % 12] = hook[i];
            }
            seesIs(Due.holding(told), first, (first + 3) % 6, 0);
            seesIs(Due.holding(Due.backward(told)), 5 - first, 5 - (first + 3) % 6, 0);
        }
    }

    private static void seeNearly() {
        DUE.says("All of it exact.");
        // Corner 3 is one least step to the left, and to the right, of the line from corner 0 to corner 2.
        seesIs(Due.holding(-1000, -1000, 1000, -1000, 1000, 999, -999, -999), 0, 2, 1);
        seesIs(Due.holding(-1000, -1000, 1000, -1000, 1000, 999, 999, 998), 0, 2, 0);
        seesIs(Due.holding(0, 0, 8, 0, 8, 4, 4, 3, 0, 4), 0, 2, 1);
        seesIs(Due.holding(0, 0, 8, 0, 8, 4, 4, 1, 0, 4), 0, 2, 0);
    }

    private static void wayIs(PolyCuts x, int... due) {
        int from = due[0];
        int to = due[due.length - 1];
        String call = "(0, " + from + ", " + to;
        DUE.is("way" + call + ")", x.way(0, from, to), due.length - 1);
        for (int k = 0; k < due.length; k++) {
            DUE.is("step" + call + ", " + k + ")", x.step(0, from, to, k), due[k]);
        }
    }

    private static void fewestSteps() {
        DUE.says("A WAY from a CORNER to another one goes along EDGES and DIAGONALS, in the fewest steps");
        PolyCuts x = Due.holding(SPIRAL);
        wayIs(x, 0, 1, 2, 3, 4, 5, 6);
        wayIs(x, 0, 1, 2, 3, 4, 5, 7);
        wayIs(x, 13, 1, 2, 3, 4, 5, 7);
        wayIs(x, 0, 12);
        wayIs(x, 0, 13);
        PolyCuts convex = Due.holding(Due.convex(14));
        wayIs(convex, 0, 7);
        wayIs(convex, 13, 0);
    }

    private static void leastSecondAndThird() {
        DUE.says("of such ways the one of the least CORNER as the second one, of these as the third one, and so on");
        PolyCuts x = Due.holding(COMB);
        // 5 4 0 8, 5 6 0 8 and 5 6 7 8 are as short; back 8 0 4 5, 8 0 6 5 and 8 7 6 5.
        wayIs(x, 5, 4, 0, 8);
        wayIs(x, 8, 0, 4, 5);
        PolyCuts spiral = Due.holding(SPIRAL);
        wayIs(spiral, 7, 5, 4, 3, 2, 1, 13);
        wayIs(spiral, 8, 4, 3, 2, 1, 13);
        // From the least corner on, not from the greatest, whichever way it goes.
        PolyCuts back = Due.holding(Due.backward(SPIRAL));
        wayIs(back, 13, 1, 2, 3, 4, 5, 6);
        wayIs(back, 6, 5, 4, 3, 2, 1, 13);
    }

    // ---- 3 TRIANGLES

    private static void triangleIs(PolyCuts x, int t, int i, int k, int j) {
        DUE.is("triangle(0, " + t + ", 0)", x.triangle(0, t, 0), i);
        DUE.is("triangle(0, " + t + ", 1)", x.triangle(0, t, 1), k);
        DUE.is("triangle(0, " + t + ", 2)", x.triangle(0, t, 2), j);
    }

    private static void diagonalIs(PolyCuts x, int d, int lesser, int greater, int stays) {
        DUE.is("diagonal(0, " + d + ", 0)", x.diagonal(0, d, 0), lesser);
        DUE.is("diagonal(0, " + d + ", 1)", x.diagonal(0, d, 1), greater);
        DUE.is("diagonal(0, " + d + ", 2)", x.diagonal(0, d, 2), stays);
    }

    private static void asManyAsThereCanBe() {
        DUE.says("as many as there can be (three less than CORNERS)");
        for (int n = 3; n <= 14; n++) {
            int[] convex = Due.convex(n);
            for (int[] xy : new int[][] {convex, Due.backward(convex)}) {
                PolyCuts x = Due.holding(xy);
                for (int d = 0; d < n - 3; d++) {
                    DUE.holds("diagonal " + d + " with " + n, x.diagonal(0, d, 1) > x.diagonal(0, d, 0) + 1);
                    DUE.is("is one", x.sees(0, x.diagonal(0, d, 0), x.diagonal(0, d, 1)), 1);
                }
                diagonalIs(x, n - 3, NONE, NONE, NONE);
            }
        }
    }

    private static void leastSum() {
        DUE.says("THE BEST has the least sum of the squares of the lengths of its DIAGONALS");
        DUE.is("of none", Due.holding(0, 0, 1, 0, 0, 1).best(0), 0);
        DUE.is("of the greatest square", Due.holding(-1000, -1000, 1000, -1000, 1000, 1000, -1000, 1000).best(0), 8000000);
        DUE.is("of the less of two", Due.holding(0, 0, 5, 0, 7, 3, 1, 3).best(0), 25);
        DUE.is("of the only one, though it is long", Due.holding(0, 0, 4, 1, 8, 0, 4, 8).best(0), 49);
        DUE.is("of several", Due.holding(TWO_SQUARES).best(0), 16 + 32 + 16 + 32);
        // The squares 25 and 68 have less long sides than 50 and 40, but the greater sum.
        PolyCuts x = Due.holding(3, 7, 1, 4, 2, 0, 9, 9, 4, 8);
        DUE.is("of squares, not of lengths", x.best(0), 50 + 40);
        triangleIs(x, 0, 0, 3, 4);
    }

    private static void triangleNumbers() {
        DUE.says("then those of the CORNERS from i to k, then of those from k to j "
                + "(none, where these are NEIGHBOURS by an EDGE from one to the next)");
        PolyCuts least = Due.holding(0, 0, 1, 0, 0, 1);
        triangleIs(least, 0, 0, 1, 2);
        triangleIs(least, 1, NONE, NONE, NONE);
        PolyCuts x = Due.holding(TWO_SQUARES);
        triangleIs(x, 0, 0, 3, 6);
        triangleIs(x, 1, 0, 1, 3);
        triangleIs(x, 2, 1, 2, 3);
        triangleIs(x, 3, 3, 4, 6);
        triangleIs(x, 4, 4, 5, 6);
        triangleIs(x, 5, NONE, NONE, NONE);
    }

    private static void leastThirdCorners() {
        DUE.says("Of several that have the least sum it is the one with the least k in TRIANGLE 0, "
                + "of these in TRIANGLE 1, and so on");
        PolyCuts square = Due.holding(SQUARE);
        triangleIs(square, 0, 0, 1, 3);
        triangleIs(square, 1, 1, 2, 3);
        // 1-3 with 0-3 or with 1-4: triangle 0 is 0, 3, 4 or 0, 1, 4.
        PolyCuts house = Due.holding(0, 0, 9, 0, 12, 4, 9, 8, 0, 8);
        DUE.is("as little", house.best(0), 64 + 145);
        triangleIs(house, 0, 0, 1, 4);
        triangleIs(house, 1, 1, 3, 4);
        // Triangle 0 is the roof; the square below it has two ways, which triangle 1 decides.
        PolyCuts roof = Due.holding(2, -1, 4, 0, 4, 4, 0, 4, 0, 0);
        DUE.is("as little", roof.best(0), 16 + 32);
        triangleIs(roof, 0, 0, 1, 4);
        triangleIs(roof, 1, 1, 2, 4);
        triangleIs(roof, 2, 2, 3, 4);
        // Triangle 0 has a square on either side, which triangles 1 and 3 decide.
        PolyCuts back = Due.holding(Due.backward(TWO_SQUARES));
        triangleIs(back, 0, 0, 3, 6);
        triangleIs(back, 1, 0, 1, 3);
        triangleIs(back, 3, 3, 4, 6);
    }

    private static void diagonalNumbers() {
        DUE.says("Its DIAGONALS are numbered by their lesser CORNERS, of these by the greater ones");
        PolyCuts fan = Due.holding(0, 0, 4, 0, 4, -4, 8, -4, 8, 4, 0, 4);
        diagonalIs(fan, 0, 1, 3, 0);
        diagonalIs(fan, 1, 1, 4, 1);
        diagonalIs(fan, 2, 1, 5, 0);
        diagonalIs(fan, 3, NONE, NONE, NONE);
    }

    private static void atMostStraight() {
        DUE.says("one goes (the others stay), if at both of its CORNERS the angle that comes then, "
                + "between what stays (or is an EDGE) on either side of it, is at most straight");
        // At corner 3 the angle without 1-3 is straight, from edge 2-3 to 3-6; without 3-6 it would be wider.
        for (int[] xy : new int[][] {TWO_SQUARES, {0, 4, 4, 4, 4, 0, 0, 0, 0, -4, -4, -4, -4, 0}}) {
            PolyCuts x = Due.holding(xy);
            diagonalIs(x, 0, 0, 3, 0);
            diagonalIs(x, 1, 1, 3, 0);
            diagonalIs(x, 2, 3, 6, 1);
            diagonalIs(x, 3, 4, 6, 0);
            diagonalIs(x, 4, NONE, NONE, NONE);
        }
    }

    private static void nearlyStraight() {
        DUE.says("All of it exact.");
        PolyCuts less = Due.holding(-1000, -1000, 1000, -1000, 1000, 999, -999, -999);
        DUE.is("a little less than straight: it goes", less.diagonal(0, 0, 2), 0);
        DUE.is("one part", less.parts(0), 1);
        PolyCuts more = Due.holding(-1000, -1000, 1000, -1000, 1000, 999, 999, 998);
        diagonalIs(more, 0, 1, 3, 1);
        DUE.is("two parts", more.parts(0), 2);
        PolyCuts back = Due.holding(Due.backward(-1000, -1000, 1000, -1000, 1000, 999, 999, 998));
        diagonalIs(back, 0, 0, 2, 1);
    }

    private static void atBothCorners() {
        DUE.says("if at both of its CORNERS");
        diagonalIs(Due.holding(0, 0, 4, 1, 8, 0, 4, 8), 0, 1, 3, 1);
        diagonalIs(Due.holding(4, 8, 0, 0, 4, 1, 8, 0), 0, 0, 2, 1);
        diagonalIs(Due.holding(4, 1, 8, 0, 4, 8, 0, 0), 0, 0, 2, 1);
        diagonalIs(Due.holding(0, 0, 4, -1, 8, 0, 4, 8), 0, 0, 2, 0);
    }

    private static void diagonalByDiagonal() {
        DUE.says("MERGED: DIAGONAL by DIAGONAL, by numbers");
        // From the notch of an L: the first goes, so the second stays, so the third may go.
        PolyCuts x = Due.holding(0, 0, 4, 0, 4, -4, 8, -4, 8, 4, 0, 4);
        DUE.is("the first", x.diagonal(0, 0, 2), 0);
        DUE.is("the second", x.diagonal(0, 1, 2), 1);
        DUE.is("the third", x.diagonal(0, 2, 2), 0);
        // A convex one has none that stays, for each that went makes no angle wider than an angle of its own.
        PolyCuts convex = Due.holding(Due.convex(14));
        for (int d = 0; d < 11; d++) {
            DUE.is("diagonal " + d + " of a convex one", convex.diagonal(0, d, 2), 0);
        }
    }

    private static void parts() {
        DUE.says("PARTS are what is between those that stay");
        DUE.is("none stays, for there is none", Due.holding(0, 0, 1, 0, 0, 1).parts(0), 1);
        DUE.is("none stays", Due.holding(Due.convex(14)).parts(0), 1);
        DUE.is("one stays", Due.holding(TWO_SQUARES).parts(0), 2);
        DUE.is("one for each straight piece of the spiral", Due.holding(SPIRAL).parts(0), 6);
    }

    // ---- 4 SAMENESS

    private static void sameIs(int due, int[] one, int[] other) {
        PolyCuts x = Due.holding(one);
        DUE.is("the other is one", Due.make(x, other), 1);
        DUE.is("same(0, 1)", x.same(0, 1), due);
        DUE.is("same(1, 0)", x.same(1, 0), due);
    }

    private static void movedAndTurned() {
        DUE.says("Two POLYGONS are the SAME if one comes onto the other when it is moved and turned");
        sameIs(1, new int[] {-1000, -1000, -998, -1000, -1000, -997}, new int[] {1000, 1000, 998, 1000, 1000, 997});
        sameIs(2, new int[] {-1000, -1000, -998, -1000, -1000, -997}, new int[] {998, 997, 1000, 997, 1000, 1000});
        sameIs(1, new int[] {0, 0, 10, 0, 5, 5}, new int[] {0, 0, 8, 6, 1, 7});
        sameIs(0, new int[] {0, 0, 10, 0, 5, 5}, new int[] {0, 0, 8, 6, 1, 6});
        sameIs(0, SQUARE, new int[] {0, 0, 5, 0, 5, 5, 0, 5});
        sameIs(0, SQUARE, new int[] {0, 0, 4, 0, 4, 4});
        sameIs(1, SQUARE, Due.backward(SQUARE));
        sameIs(1, SPIRAL, Due.backward(SPIRAL));
    }

    private static void onlyTurnedOver() {
        DUE.says("OVER if only when it is turned over besides");
        int[] odd = {0, 0, 7, 1, 6, 5, 1, 4};
        sameIs(2, odd, new int[] {0, 0, -7, 1, -6, 5, -1, 4});
        sameIs(2, odd, Due.backward(0, 0, -7, 1, -6, 5, -1, 4));
        sameIs(1, new int[] {0, 0, 4, 0, 2, 7}, new int[] {0, 0, -4, 0, -2, 7});
        sameIs(1, new int[] {0, 0, 4, 0, 2, 7}, new int[] {0, 0, 4, 0, 2, -7});
    }
}
