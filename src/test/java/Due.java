/** Counts the answers that are not as due, and ends a test by what it counted. */
final class Due {
    private int asked = 0;
    private int wrong = 0;
    private String sentence = "";

    /** The words of the document by which the answers that follow are due. */
    void says(String words) {
        sentence = "\"" + words + "\" ";
    }

    void is(String call, long got, long want) {
        asked++;
        if (got != want) {
            wrong++;
            System.out.println(sentence + call + " answered " + got + ", due is " + want);
        }
    }

    void holds(String claim, boolean truth) {
        is(claim, truth ? 1 : 0, 1);
    }

    /** Tells the corners, given as x, y, x, y, .., and answers what polygon() does. */
    static int make(PolyCuts x, int... xy) {
        for (int i = 0; i + 1 < xy.length; i += 2) {
            x.corner(xy[i], xy[i + 1]);
        }
        return x.polygon();
    }

    static PolyCuts holding(int... xy) {
        PolyCuts x = new PolyCuts();
        if (make(x, xy) != 0) {
            throw new IllegalStateException("the test's own polygon is none");
        }
        return x;
    }

    /** Corners on a parabola: convex, however many, and going left. */
    static int[] convex(int corners) {
        int[] xy = new int[2 * corners];
        for (int i = 0; i < corners; i++) {
            xy[2 * i] = i;
            xy[2 * i + 1] = i * i;
        }
        return xy;
    }

    /** The same corners, told in the other direction, the last one first. */
    static int[] backward(int... xy) {
        int[] made = new int[xy.length];
        for (int i = 0; i + 1 < xy.length; i += 2) {
            made[xy.length - 2 - i] = xy[i];
            made[xy.length - 1 - i] = xy[i + 1];
        }
        return made;
    }

    /** Numbers that are out of bounds everywhere but as an unbounded t, d or k. */
    static int[] wildNumbers() {
        return new int[] {Integer.MIN_VALUE, Integer.MIN_VALUE + 1, -3001, -15, -3, -2, -1, 15, 3001,
            Integer.MAX_VALUE - 1, Integer.MAX_VALUE};
    }

    void end() {
        System.out.println(asked + " asked, " + wrong + " wrong");
        if (wrong != 0 || asked == 0) {
            System.exit(1);
        }
    }
}
