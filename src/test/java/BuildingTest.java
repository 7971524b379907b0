/** Promises 1 to 7: a new object, corner, polygon, fault, drop, count, at. */
public final class BuildingTest {
    private static final Due DUE = new Due();

    public static void main(String[] args) {
        promise1NewObject();
        promise2Corner();
        promise3Polygon();
        promise3Faults();
        promise3Room();
        promise4Fault();
        promise5Drop();
        promise6Count();
        promise7At();
        DUE.end();
    }

    private static void promise1NewObject() {
        PolyCuts x = new PolyCuts();
        DUE.is("1: count(NONE) of a new object", x.count(PolyCuts.NONE), 0);
        DUE.is("1: count(0) of a new object", x.count(0), PolyCuts.UNKNOWN);
        DUE.is("1: drop() of a new object", x.drop(), PolyCuts.UNKNOWN);
        DUE.is("1: fault(0) of a new object", x.fault(0), PolyCuts.NONE);
        DUE.is("1: fault(1) of a new object", x.fault(1), PolyCuts.NONE);
        DUE.is("1: corner of a new object", x.corner(0, 0), 1);
        PolyCuts other = new PolyCuts();
        DUE.is("1: polygon() of a new object", other.polygon(), -11);
        DUE.is("1: the row of the one is not the other's", x.corner(1, 0), 2);
    }

    private static void promise2Corner() {
        PolyCuts x = new PolyCuts();
        DUE.is("2: the farthest corner", x.corner(1000, -1000), 1);
        DUE.is("2: the other farthest corner", x.corner(-1000, 1000), 2);
        DUE.is("2: x too far", x.corner(1001, 0), PolyCuts.OUTSIDE);
        DUE.is("2: x too far below", x.corner(-1001, 0), PolyCuts.OUTSIDE);
        DUE.is("2: y too far", x.corner(0, 1001), PolyCuts.OUTSIDE);
        DUE.is("2: y too far below", x.corner(0, -1001), PolyCuts.OUTSIDE);
        DUE.is("2: least x", x.corner(Integer.MIN_VALUE, 0), PolyCuts.OUTSIDE);
        DUE.is("2: greatest y", x.corner(0, Integer.MAX_VALUE), PolyCuts.OUTSIDE);
        for (int i = 3; i <= 14; i++) {
            DUE.is("2: corner " + i, x.corner(i, i * i), i);
        }
        DUE.is("2: the 15th corner", x.corner(0, 0), PolyCuts.ROOM);
        DUE.is("2: OUTSIDE goes before ROOM", x.corner(0, 1001), PolyCuts.OUTSIDE);
        DUE.is("2: ROOM again", x.corner(0, 0), PolyCuts.ROOM);
    }

    private static void promise3Polygon() {
        PolyCuts x = new PolyCuts();
        DUE.is("3: a triangle", Due.make(x, 0, 0, 1, 0, 0, 1), 0);
        DUE.is("3: the row is empty then", x.corner(5, 5), 1);
        DUE.is("3: the same again", Due.make(x, 6, 5, 5, 6), 1);
        DUE.is("3: it has what was told", x.at(1, 0, 0), 5);
        int[] fourteen = {0, 0, 2, 1, 4, 0, 6, 1, 8, 0, 10, 1, 12, 0, 12, 5, 10, 6, 8, 5, 6, 6, 4, 5, 2, 6, 0, 5};
        DUE.is("3: fourteen corners", Due.make(x, fourteen), 2);
        DUE.is("3: all of them", x.count(2), 14);
    }

    private static void promise3Faults() {
        PolyCuts x = new PolyCuts();
        DUE.is("3: no corner", x.polygon(), -11);
        DUE.is("3: one corner", Due.make(x, 3, 3), -11);
        DUE.is("3: two corners", Due.make(x, 3, 3, 4, 4), -11);
        DUE.is("3: two corners in one place are too few first", Due.make(x, 3, 3, 3, 3), -11);
        DUE.is("3: the row is empty after a fault", x.corner(0, 0), 1);
        DUE.is("3: three on a line", Due.make(x, 5, 5, 9, 9), -12);
        DUE.is("3: back where it came from", Due.make(x, 0, 0, 5, 0, 0, 0, 0, 5), -12);
        DUE.is("3: the same twice", Due.make(x, 0, 0, 5, 0, 5, 0, 0, 5), -12);
        DUE.is("3: flat goes before meeting", Due.make(x, 0, 0, 4, 4, 4, 0, 0, 4, -4, 8), -12);
        DUE.is("3: edges cross", Due.make(x, 0, 0, 4, 4, 4, 0, 0, 4), -13);
        DUE.is("3: a corner on an edge", Due.make(x, 0, 0, 8, 0, 8, 8, 4, 0, 0, 8), -13);
        DUE.is("3: two corners in one place", Due.make(x, 0, 0, 4, 1, 8, 0, 8, 8, 4, 1, 0, 8), -13);
        DUE.is("3: edges that lie on one another",
                Due.make(x, 0, 0, 6, 0, 6, 3, 4, 3, 4, 0, 2, 0, 2, 3, 0, 3), -13);
        DUE.is("3: on one line but apart", Due.make(x, 0, 0, 2, 0, 2, 2, 4, 2, 4, 0, 6, 0, 6, 3, 0, 3), 0);
        DUE.is("3: nothing came of the faults", x.count(PolyCuts.NONE), 1);
    }

    private static void promise3Room() {
        PolyCuts x = new PolyCuts();
        for (int p = 0; p < 8; p++) {
            DUE.is("3: polygon " + p, Due.make(x, 0, 0, p + 1, 0, 0, 1), p);
        }
        DUE.is("3: ROOM is asked before the faults", x.polygon(), PolyCuts.ROOM);
        x.corner(0, 0);
        x.corner(7, 0);
        DUE.is("3: the ninth", Due.make(x, 0, 9), PolyCuts.ROOM);
        DUE.is("3: none came", x.count(PolyCuts.NONE), 8);
        DUE.is("3: the row stays", x.corner(-1, 3), 4);
        x.drop();
        DUE.is("3: the row that stayed", x.polygon(), 7);
        DUE.is("3: with all its corners", x.count(7), 4);
        DUE.is("3: and their places", x.at(7, 1, 0), 7);
    }

    private static void faultIs(PolyCuts x, String when, int first, int second) {
        DUE.is("4: fault(0) " + when, x.fault(0), first);
        DUE.is("4: fault(1) " + when, x.fault(1), second);
    }

    private static void promise4Fault() {
        PolyCuts x = new PolyCuts();
        Due.make(x, 0, 0, 4, 1, 8, 2, 8, 8, 4, 8, 0, 8);
        faultIs(x, "of the least flat corner", 1, PolyCuts.NONE);
        Due.make(x, 0, 0, 1, 1);
        faultIs(x, "of too few", PolyCuts.NONE, PolyCuts.NONE);
        Due.make(x, 2, 0, 4, 0, 4, 4, 0, 4, 0, 0);
        faultIs(x, "of corner 0, flat by the last", 0, PolyCuts.NONE);
        Due.make(x, 2, 2, 4, 0, 4, 4, 0, 4);
        faultIs(x, "of corner 0 between the last and 1", 0, PolyCuts.NONE);
        Due.make(x, 4, 0, 4, 4, 0, 4, 2, 2);
        faultIs(x, "of the last corner, flat by corner 0", 3, PolyCuts.NONE);
        Due.make(x, 0, 0, 9, 0, 9, 2, 3, -2, 3, 3, 6, -3, 0, 3);
        faultIs(x, "of edges", 0, 2);
        Due.make(x, 0, 10, 0, 0, 9, 0, 9, 4, 3, -2, 6, -3, 6, 3, 1, 5);
        faultIs(x, "of edges, the least edge with its least later one", 1, 3);
        Due.make(x, 0, 0, 4, 1, 8, 0, 8, 8, 4, 1, 0, 8);
        faultIs(x, "of edges that meet at their ends", 0, 3);
        Due.make(x, 0, 0, 6, 0, 0, 6, 6, 6, 3, 9);
        faultIs(x, "of the last edge", 1, 4);
        DUE.is("4: what", x.fault(2), PolyCuts.OUTSIDE);
        DUE.is("4: what below", x.fault(-1), PolyCuts.OUTSIDE);
        DUE.is("4: the least what", x.fault(Integer.MIN_VALUE), PolyCuts.OUTSIDE);
        faultIs(x, "is not changed by asking", 1, 4);
        x.corner(0, 0);
        x.drop();
        faultIs(x, "is not changed by corner() and drop()", 1, 4);
        Due.make(x, 1, 0, 0, 1);
        faultIs(x, "of none that is", PolyCuts.NONE, PolyCuts.NONE);
        promise4FaultAfterRoom();
    }

    private static void promise4FaultAfterRoom() {
        PolyCuts x = new PolyCuts();
        for (int p = 0; p < 7; p++) {
            Due.make(x, 0, 0, 1, 0, 0, 1);
        }
        Due.make(x, 0, 0, 4, 4, 4, 0, 0, 4);
        faultIs(x, "before the last one", 0, 2);
        Due.make(x, 0, 0, 1, 0, 0, 1);
        faultIs(x, "after the last one", PolyCuts.NONE, PolyCuts.NONE);
        DUE.is("4: ROOM", Due.make(x, 0, 0, 4, 4, 4, 0, 0, 4), PolyCuts.ROOM);
        faultIs(x, "after ROOM", PolyCuts.NONE, PolyCuts.NONE);
        x.drop();
        DUE.is("4: the row that waited", x.polygon(), -13);
        faultIs(x, "of the row that waited", 0, 2);
        Due.make(x, 0, 0, 1, 0, 0, 1);
        x.drop();
        Due.make(x, 3, 3, 3, 3, 5, 7);
        Due.make(x, 0, 0, 1, 0, 0, 1);
        DUE.is("4: full again", x.polygon(), PolyCuts.ROOM);
        faultIs(x, "after ROOM again", PolyCuts.NONE, PolyCuts.NONE);
    }

    private static void promise5Drop() {
        PolyCuts x = new PolyCuts();
        DUE.is("5: none to drop", x.drop(), PolyCuts.UNKNOWN);
        Due.make(x, 0, 0, 1, 0, 0, 1);
        Due.make(x, 0, 0, 2, 0, 2, 2, 0, 2);
        Due.make(x, 0, 0, 3, 0, 0, 3);
        x.corner(7, 7);
        DUE.is("5: the last one", x.drop(), 2);
        DUE.is("5: it is gone", x.area(2), 0);
        DUE.is("5: the one before is the last", x.area(1), 8);
        DUE.is("5: the row is not touched", x.corner(9, 7), 2);
        DUE.is("5: its number is free again", Due.make(x, 7, 9), 2);
        DUE.is("5: for another polygon", x.area(2), 4);
        DUE.is("5: three", x.drop(), 2);
        DUE.is("5: two", x.drop(), 1);
        DUE.is("5: one", x.drop(), 0);
        DUE.is("5: none", x.drop(), PolyCuts.UNKNOWN);
        DUE.is("5: still none", x.count(PolyCuts.NONE), 0);
    }

    private static void promise6Count() {
        PolyCuts x = Due.holding(0, 0, 2, 0, 2, 2, 0, 2);
        Due.make(x, 0, 0, 1, 0, 0, 1);
        DUE.is("6: polygons", x.count(PolyCuts.NONE), 2);
        DUE.is("6: corners of 0", x.count(0), 4);
        DUE.is("6: corners of 1", x.count(1), 3);
        DUE.is("6: one too many", x.count(2), PolyCuts.UNKNOWN);
        DUE.is("6: below NONE", x.count(-2), PolyCuts.UNKNOWN);
        DUE.is("6: far too many", x.count(Integer.MAX_VALUE), PolyCuts.UNKNOWN);
        DUE.is("6: far too few", x.count(Integer.MIN_VALUE), PolyCuts.UNKNOWN);
    }

    private static void promise7At() {
        int[] xy = {-7, 3, 5, -1000, 1000, 8, 2, 9};
        PolyCuts x = Due.holding(xy);
        for (int i = 0; i < 4; i++) {
            DUE.is("7: x of " + i, x.at(0, i, 0), xy[2 * i]);
            DUE.is("7: y of " + i, x.at(0, i, 1), xy[2 * i + 1]);
        }
        DUE.is("7: no such polygon", x.at(1, 0, 0), PolyCuts.UNKNOWN);
        DUE.is("7: NONE is no polygon", x.at(PolyCuts.NONE, 0, 0), PolyCuts.UNKNOWN);
        DUE.is("7: no such corner", x.at(0, 4, 0), PolyCuts.UNKNOWN);
        DUE.is("7: no such corner below", x.at(0, -1, 0), PolyCuts.UNKNOWN);
        DUE.is("7: no such axis", x.at(0, 0, 2), PolyCuts.OUTSIDE);
        DUE.is("7: no such axis below", x.at(0, 0, -1), PolyCuts.OUTSIDE);
        DUE.is("7: UNKNOWN goes before OUTSIDE", x.at(0, 4, 2), PolyCuts.UNKNOWN);
        DUE.is("7: of the polygon too", x.at(1, 0, 2), PolyCuts.UNKNOWN);
    }
}
