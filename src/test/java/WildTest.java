import java.util.ArrayList;
import java.util.List;
import java.util.Random;

/**
 * Runs of 512 calls that chance made, right and wrong ones: none throws, the wrong ones change nothing,
 * the same calls answer the same, and what was dropped leaves no trace.
 */
public final class WildTest {
    private static final Due DUE = new Due();
    private static final Random CHANCE = new Random(512);
    private static final int METHODS = 21;

    public static void main(String[] args) {
        for (int run = 0; run < 400; run++) {
            sameCallsAnswerTheSame();
        }
        for (int run = 0; run < 60; run++) {
            wrongCallsChangeNothing();
        }
        for (int run = 0; run < 60; run++) {
            droppedLeavesNoTrace();
        }
        DUE.end();
    }

    private static int number() {
        switch (CHANCE.nextInt(8)) {
            case 0:
                return Due.wildNumbers()[CHANCE.nextInt(Due.wildNumbers().length)];
            case 1:
                return CHANCE.nextInt();
            case 2:
                return CHANCE.nextInt(40) - 20;
            default:
                return CHANCE.nextInt(4);
        }
    }

    private static long call(PolyCuts x, int method, int a, int b, int c, int d) {
        switch (method) {
            case 0: return x.corner(a, b);
            case 1: return x.polygon();
            case 2: return x.fault(a);
            case 3: return x.drop();
            case 4: return x.count(a);
            case 5: return x.at(a, b, c);
            case 6: return x.area(a);
            case 7: return x.centroid(a, b, c);
            case 8: return x.points(a, b);
            case 9: return x.in(a, b, c);
            case 10: return x.sees(a, b, c);
            case 11: return x.way(a, b, c);
            case 12: return x.step(a, b, c, d);
            case 13: return x.triangulations(a);
            case 14: return x.best(a);
            case 15: return x.triangle(a, b, c);
            case 16: return x.diagonal(a, b, c);
            case 17: return x.parts(a);
            case 18: return x.same(a, b);
            case 19: return x.onto(a, b);
            default: return x.symmetries(a, b);
        }
    }

    private static void sameCallsAnswerTheSame() {
        PolyCuts x = new PolyCuts();
        PolyCuts y = new PolyCuts();
        for (int i = 0; i < 512; i++) {
            int method = CHANCE.nextInt(3) == 0 ? 0 : CHANCE.nextInt(METHODS);
            int a = number();
            int b = number();
            int c = number();
            int d = number();
            String what = "method " + method + " of " + a + ", " + b + ", " + c + ", " + d;
            try {
                DUE.is(what, call(x, method, a, b, c, d), call(y, method, a, b, c, d));
            } catch (RuntimeException e) {
                DUE.holds(what + " threw " + e, false);
            }
        }
    }

    /** All that can be asked of a polygon. */
    private static List<Long> told(PolyCuts x, int p) {
        List<Long> all = new ArrayList<>();
        int n = x.count(p);
        for (int method : new int[] {4, 6, 13, 14, 17}) {
            all.add(call(x, method, p, 0, 0, 0));
        }
        for (int i = 0; i < 4; i++) {
            all.add(call(x, 7, p, i / 2, i % 2, 0));
            all.add(call(x, 8, p, i % 2, 0, 0));
            all.add(call(x, 20, p, i % 2, 0, 0));
        }
        for (int i = 0; i < n; i++) {
            for (int what = 0; what < 3; what++) {
                all.add(call(x, 5, p, i, what, 0));
                all.add(call(x, 15, p, i, what, 0));
                all.add(call(x, 16, p, i, what, 0));
            }
            for (int j = 0; j < n; j++) {
                all.add(call(x, 9, p, i, j, 0));
                all.add(call(x, 10, p, i, j, 0));
                all.add(call(x, 11, p, i, j, 0));
                all.add(call(x, 12, p, i, j, 1));
                all.add(call(x, 12, p, i, j, 2));
            }
        }
        return all;
    }

    private static List<Long> told(PolyCuts x) {
        List<Long> all = new ArrayList<>();
        all.add((long) x.count(PolyCuts.NONE));
        all.add((long) x.fault(0));
        all.add((long) x.fault(1));
        for (int p = 0; p < x.count(PolyCuts.NONE); p++) {
            all.addAll(told(x, p));
            for (int q = 0; q < x.count(PolyCuts.NONE); q++) {
                all.add((long) x.same(p, q));
                all.add((long) x.onto(p, q));
            }
        }
        return all;
    }

    private static void makeSome(PolyCuts x, int tries) {
        for (int i = 0; i < tries && x.count(PolyCuts.NONE) < 8; i++) {
            int n = 3 + CHANCE.nextInt(3);
            for (int k = 0; k < n; k++) {
                x.corner(CHANCE.nextInt(8), CHANCE.nextInt(8));
            }
            x.polygon();
        }
    }

    private static void wrongCallsChangeNothing() {
        PolyCuts x = new PolyCuts();
        makeSome(x, 1 + CHANCE.nextInt(16));
        int inRow = CHANCE.nextInt(15);
        for (int i = 0; i < inRow; i++) {
            x.corner(i, i * i);
        }
        List<Long> before = told(x);
        for (int wild : new int[] {-3001, 3001, Integer.MIN_VALUE, Integer.MAX_VALUE}) {
            DUE.is("a corner that is none", x.corner(wild, 0), PolyCuts.OUTSIDE);
            DUE.is("a corner that is none", x.corner(0, wild), PolyCuts.OUTSIDE);
            for (int method = 4; method < METHODS; method++) {
                call(x, method, wild, wild, wild, wild);
                call(x, method, 0, wild, wild, wild);
                call(x, method, 0, 0, wild, wild);
            }
        }
        if (x.count(PolyCuts.NONE) == 8) {
            DUE.is("no room", x.polygon(), PolyCuts.ROOM);
        }
        if (x.count(PolyCuts.NONE) == 0) {
            DUE.is("none to drop", x.drop(), PolyCuts.UNKNOWN);
        }
        DUE.holds("nothing has changed", before.equals(told(x)));
        DUE.is("nor has the row", x.corner(0, 1), inRow == 14 ? PolyCuts.ROOM : inRow + 1);
    }

    private static void droppedLeavesNoTrace() {
        PolyCuts used = new PolyCuts();
        makeSome(used, 8);
        while (used.count(PolyCuts.NONE) > 0) {
            used.drop();
        }
        makeSome(used, 8);
        int[] comb = {0, 0, 9, 0, 9, 7, 6, 7, 6, 2, 4, 5, 2, 2, 2, 6, 0, 6};
        for (int n = 9; n > 2; n--) {
            Due.make(used, java.util.Arrays.copyOf(comb, 2 * n));
        }
        comparedWithNew(used);
    }

    /** Each polygon answers as it does when it is the only one of a new object. */
    private static void comparedWithNew(PolyCuts used) {
        for (int p = 0; p < used.count(PolyCuts.NONE); p++) {
            int[] xy = new int[2 * used.count(p)];
            for (int i = 0; i < xy.length; i++) {
                xy[i] = used.at(p, i / 2, i % 2);
            }
            DUE.holds("polygon " + p + " is as in a new object", told(used, p).equals(told(Due.holding(xy), 0)));
        }
    }
}
