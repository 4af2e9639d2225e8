/** Promises 1, 2, 15 and 17: a new object, copyAt, of, place. */
public final class PlacingTest {
    private static final int FAR = 1000000;

    public static void main(String[] args) {
        sizes();
        shapes();
        aNewObjectIsEmpty();
        arrowsPointByTheTree();
        copyAtRefusals();
        copyAtAsksNothingOfTheLibrary();
        ofRefusals();
        placeAnswers();
        Check.end();
    }

    private static void sizes() {
        for (int n = 2; n <= 12; n++) {
            checkSize(n, n);
        }
        int[] others = {Integer.MIN_VALUE, -1, 0, 1, 13, 14, Integer.MAX_VALUE};
        for (int n : others) {
            checkSize(n, 6);
        }
    }

    private static void checkSize(int n, int size) {
        LoanArrows x = new LoanArrows(n, 0);
        Check.due("with n " + n + " of the last", x.of(size - 1, 0, 0), LoanArrows.NONE);
        Check.outside("with n " + n + " of one more", () -> x.of(size, 0, 0));
        Check.outside("with n " + n + " of -1", () -> x.of(-1, 0, 0));
    }

    private static void shapes() {
        for (int i = 1; i < 12; i++) {
            checkParent(0, i, (i - 1) / 2);
            checkParent(1, i, i - 1);
            checkParent(2, i, 0);
            checkParent(-1, i, (i - 1) / 2);
            checkParent(3, i, (i - 1) / 2);
            checkParent(Integer.MIN_VALUE, i, (i - 1) / 2);
            checkParent(Integer.MAX_VALUE, i, (i - 1) / 2);
        }
    }

    private static void checkParent(int shape, int library, int parent) {
        LoanArrows x = new LoanArrows(12, shape);
        x.copyAt(0, 0);
        Check.due("by shape " + shape + " the arrow of " + library, x.of(library, 0, 0), parent);
    }

    private static void aNewObjectIsEmpty() {
        LoanArrows x = new LoanArrows(12, 1);
        Check.due("pending()", x.pending(), 0);
        Check.due("quiet()", x.quiet(), true);
        for (int copy = 0; copy < 3; copy++) {
            Check.due("place", x.place(copy), LoanArrows.NONE);
            Check.due("chain", x.chain(copy, 0), LoanArrows.NONE);
            Check.due("served", x.served(copy, 0), LoanArrows.NONE);
            for (int library = 0; library < 12; library++) {
                Check.desk(x, library, copy, -1, -1, -1, -1, -1);
                Check.due("reader", x.reader(library, copy, 0), LoanArrows.NONE);
            }
        }
        for (int library = 0; library < 12; library++) {
            int which = library;
            Check.badState("restart of one that is up", () -> x.restart(which));
        }
    }

    private static void arrowsPointByTheTree() {
        for (int n = 2; n <= 12; n++) {
            for (int shape = 0; shape <= 2; shape++) {
                for (int library = 0; library < n; library++) {
                    checkArrows(n, shape, library);
                }
            }
        }
    }

    private static void checkArrows(int n, int shape, int home) {
        LoanArrows x = new LoanArrows(n, shape);
        x.copyAt(1, home);
        for (int i = 0; i < n; i++) {
            int arrow = x.of(i, 1, 0);
            if (i == home) {
                Check.due("the arrow at home", arrow, home);
            } else {
                Check.due("the arrow goes over a link", distance(i, arrow, shape), 1);
                Check.due("the arrow goes nearer", distance(arrow, home, shape), distance(i, home, shape) - 1);
            }
            Check.desk(x, i, 1, arrow, -1, i == home ? 4 : 0, 0, 0);
            Check.due("leads", x.leads(i, 1), true);
            Check.due("another copy's arrow", x.of(i, 0, 0), LoanArrows.NONE);
        }
        Check.due("place", x.place(1), home);
    }

    /** The higher number is never the upper end, so it climbs until both meet. */
    private static int distance(int one, int other, int shape) {
        int steps = 0;
        while (one != other) {
            int lower = Math.max(one, other);
            one = Math.min(one, other);
            other = shape == 0 ? (lower - 1) / 2 : shape == 1 ? lower - 1 : 0;
            steps++;
        }
        return steps;
    }

    private static void copyAtRefusals() {
        LoanArrows x = new LoanArrows(4, 0);
        Check.outside("copyAt(-1, 0)", () -> x.copyAt(-1, 0));
        Check.outside("copyAt(3, 0)", () -> x.copyAt(3, 0));
        Check.outside("copyAt(0, -1)", () -> x.copyAt(0, -1));
        Check.outside("copyAt(0, 4)", () -> x.copyAt(0, 4));
        Check.outside("copyAt far", () -> x.copyAt(FAR, FAR));
        Check.due("place(0) after refusals", x.place(0), LoanArrows.NONE);
        x.copyAt(0, 2);
        Check.badState("copyAt(0, 2) again", () -> x.copyAt(0, 2));
        Check.badState("copyAt(0, 1) elsewhere", () -> x.copyAt(0, 1));
        Check.outside("copyAt(0, 4) when placed", () -> x.copyAt(0, 4));
        Check.due("place(0) stays", x.place(0), 2);
        x.copyAt(2, 2);
        Check.due("two copies in one library", x.place(2), 2);
        Check.due("place(1)", x.place(1), LoanArrows.NONE);
    }

    private static void copyAtAsksNothingOfTheLibrary() {
        LoanArrows x = new LoanArrows(3, 1);
        x.crash(1);
        x.copyAt(0, 1);
        Check.desk(x, 1, 0, 1, -1, 4, 0, 0);
    }

    private static void ofRefusals() {
        LoanArrows x = new LoanArrows(3, 1);
        for (int round = 0; round < 2; round++) {
            Check.outside("of(3, 0, 0)", () -> x.of(3, 0, 0));
            Check.outside("of(-1, 0, 0)", () -> x.of(-1, 0, 0));
            Check.outside("of(0, 3, 0)", () -> x.of(0, 3, 0));
            Check.outside("of(0, -1, 0)", () -> x.of(0, -1, 0));
            Check.outside("of(0, 0, 5)", () -> x.of(0, 0, 5));
            Check.outside("of(0, 0, -1)", () -> x.of(0, 0, -1));
            if (round == 0) {
                x.copyAt(0, 0);
            }
        }
    }

    private static void placeAnswers() {
        LoanArrows x = new LoanArrows(12, 2);
        Check.outside("place(-1)", () -> x.place(-1));
        Check.outside("place(3)", () -> x.place(3));
        x.copyAt(0, 0);
        x.want(11, 0, 5);
        Check.due("place while it is asked for", x.place(0), 0);
        x.deliver(0);
        Check.due("place in a van", x.place(0), 27);
        x.van(0);
        Check.due("place after the van", x.place(0), 11);
        x.lend(11, 0);
        Check.due("place when lent", x.place(0), 11);
    }
}
