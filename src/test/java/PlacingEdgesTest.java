/** The boundary cases of promises 1, 2, 15 and 17, one test for each sentence that names one. */
public final class PlacingEdgesTest {
    private static final int NONE = LoanArrows.NONE;

    public static void main(String[] args) {
        theFewestLibraries();
        theMostLibraries();
        tooFewLibraries();
        tooManyLibraries();
        theFirstAndTheLastShape();
        shapesTooSmallAndTooLarge();
        bothNumbersWrong();
        librariesAreUpAtFirst();
        copiesAreNowhereAtFirst();
        copyAtTheFirstAndTheLast();
        copyAtWhenPlacedAlready();
        copyAtWhenItHasMoved();
        copyAtOneThatIsDown();
        copyAtBehindLettersOfOthers();
        ofACopyThatIsNotPlaced();
        ofWithNoFollower();
        ofWithNoBorrower();
        ofAnEmptyAndAFullQueue();
        ofOneThatIsDown();
        placeOfNoCopy();
        placeInAVan();
        placeInAVanToOneThatIsDown();
        Check.end();
    }

    /** "n libraries (2 .. 12 ...)" */
    private static void theFewestLibraries() {
        for (int shape = 0; shape <= 2; shape++) {
            LoanArrows x = new LoanArrows(2, shape);
            x.copyAt(0, 0);
            Check.due("of 2 the last points to", x.of(1, 0, 0), 0);
            Check.outside("of 2 the third", () -> x.of(2, 0, 0));
        }
    }

    private static void theMostLibraries() {
        for (int shape = 0; shape <= 2; shape++) {
            LoanArrows x = new LoanArrows(12, shape);
            x.copyAt(0, 0);
            int[] parents = {5, 10, 0};
            Check.due("of 12 the last points to", x.of(11, 0, 0), parents[shape]);
            Check.outside("of 12 the thirteenth", () -> x.of(12, 0, 0));
        }
    }

    /** "6 for any other number" */
    private static void tooFewLibraries() {
        int[] few = {1, 0, -1, -2, -6, -12, Integer.MIN_VALUE};
        for (int n : few) {
            checkSix(n, 1);
        }
    }

    private static void tooManyLibraries() {
        int[] many = {13, 14, 16, 256, 258, 65538, Integer.MAX_VALUE};
        for (int n : many) {
            checkSix(n, 1);
        }
    }

    private static void checkSix(int n, int shape) {
        LoanArrows x = new LoanArrows(n, shape);
        x.copyAt(0, 5);
        Check.due("with n " + n + " the last", x.place(0), 5);
        Check.due("with n " + n + " the arrow of 0", x.of(0, 0, 0), 1);
        Check.outside("with n " + n + " the seventh", () -> x.of(6, 0, 0));
    }

    /** "by a shape (0 .. 2 ...)" */
    private static void theFirstAndTheLastShape() {
        LoanArrows pairs = new LoanArrows(12, 0);
        pairs.copyAt(0, 0);
        int[] parents = {0, 0, 0, 1, 1, 2, 2, 3, 3, 4, 4, 5};
        LoanArrows star = new LoanArrows(12, 2);
        star.copyAt(0, 0);
        for (int i = 0; i < 12; i++) {
            Check.due("by shape 0 the arrow of " + i, pairs.of(i, 0, 0), parents[i]);
            Check.due("by shape 2 the arrow of " + i, star.of(i, 0, 0), 0);
        }
    }

    /** "0 for any other" */
    private static void shapesTooSmallAndTooLarge() {
        int[] others = {-1, -2, 3, 4, 256, 257, Integer.MIN_VALUE, Integer.MAX_VALUE};
        for (int shape : others) {
            LoanArrows x = new LoanArrows(7, shape);
            x.copyAt(0, 6);
            int[] arrows = {2, 0, 6, 1, 1, 2, 6};
            for (int i = 0; i < 7; i++) {
                Check.due("by shape " + shape + " the arrow of " + i, x.of(i, 0, 0), arrows[i]);
            }
        }
    }

    private static void bothNumbersWrong() {
        LoanArrows x = new LoanArrows(-7, 9);
        x.copyAt(0, 0);
        Check.due("the arrow of 5", x.of(5, 0, 0), 2);
        Check.outside("the seventh", () -> x.of(6, 0, 0));
    }

    /** "A library is UP at first" */
    private static void librariesAreUpAtFirst() {
        LoanArrows x = new LoanArrows(12, 2);
        for (int library = 0; library < 12; library++) {
            int which = library;
            Check.badState("restart at first", () -> x.restart(which));
            Check.due("sendAll at first", x.sendAll(library), 0);
            x.crash(library);
        }
    }

    /** "three COPIES, 0 .. 2, at first nowhere" */
    private static void copiesAreNowhereAtFirst() {
        LoanArrows x = new LoanArrows(2, 0);
        x.copyAt(1, 1);
        Check.due("place(0)", x.place(0), NONE);
        Check.due("place(1)", x.place(1), 1);
        Check.due("place(2)", x.place(2), NONE);
    }

    /** "all arrows for it point there by the tree, to itself in that one, which is KEEPING it; all others are IDLE" */
    private static void copyAtTheFirstAndTheLast() {
        LoanArrows x = new LoanArrows(12, 1);
        x.copyAt(0, 0);
        x.copyAt(2, 11);
        for (int i = 0; i < 12; i++) {
            Check.desk(x, i, 0, Math.max(0, i - 1), NONE, i == 0 ? 4 : 0, 0, 0);
            Check.desk(x, i, 2, Math.min(11, i + 1), NONE, i == 11 ? 4 : 0, 0, 0);
        }
    }

    /** "IllegalStateException when it is placed already" */
    private static void copyAtWhenPlacedAlready() {
        LoanArrows x = new LoanArrows(3, 2);
        x.copyAt(0, 1);
        for (int library = 0; library < 3; library++) {
            int where = library;
            Check.badState("copyAt(0, " + library + ") again", () -> x.copyAt(0, where));
        }
        Check.desk(x, 0, 0, 1, NONE, 0, 0, 0);
        Check.desk(x, 1, 0, 1, NONE, 4, 0, 0);
    }

    private static void copyAtWhenItHasMoved() {
        LoanArrows x = new LoanArrows(2, 0);
        x.copyAt(0, 0);
        x.want(1, 0, 1);
        x.deliver(0);
        Check.badState("copyAt when it is in a van", () -> x.copyAt(0, 0));
        x.van(0);
        Check.badState("copyAt where it was", () -> x.copyAt(0, 0));
        x.lend(1, 0);
        Check.badState("copyAt when it is lent", () -> x.copyAt(0, 1));
        Check.due("place(0)", x.place(0), 1);
    }

    /** Promise 2 names no refusal by one that is down. */
    private static void copyAtOneThatIsDown() {
        LoanArrows x = new LoanArrows(2, 0);
        x.crash(0);
        x.crash(1);
        x.copyAt(0, 1);
        Check.desk(x, 0, 0, 1, NONE, 0, 0, 0);
        Check.desk(x, 1, 0, 1, NONE, 4, 0, 0);
    }

    private static void copyAtBehindLettersOfOthers() {
        LoanArrows x = new LoanArrows(2, 0);
        x.copyAt(0, 0);
        x.want(1, 0, 1);
        x.copyAt(1, 0);
        x.want(1, 1, 1);
        Check.due("the second letter waits", x.pending(), 1);
        x.deliver(0);
        x.deliver(0);
        Check.packet(x, 0, 0, 1, 0, 1, 1, 1);
        Check.due("the second is taken", x.deliver(0), 1);
        Check.due("place(1)", x.place(1), 17);
    }

    /** "NONE for all when the copy is not placed" */
    private static void ofACopyThatIsNotPlaced() {
        LoanArrows x = new LoanArrows(2, 0);
        x.copyAt(0, 0);
        for (int copy = 1; copy < 3; copy++) {
            Check.desk(x, 0, copy, NONE, NONE, NONE, NONE, NONE);
            Check.desk(x, 1, copy, NONE, NONE, NONE, NONE, NONE);
        }
    }

    /** "its follower (1, NONE)" */
    private static void ofWithNoFollower() {
        LoanArrows x = new LoanArrows(2, 0);
        x.copyAt(0, 1);
        Check.due("no follower at first", x.of(1, 0, 1), NONE);
        x.want(1, 0, 1);
        x.want(0, 0, 2);
        Check.due("no follower before the letter", x.of(1, 0, 1), NONE);
        x.deliver(0);
        Check.due("library 0 is a follower too", x.of(1, 0, 1), 0);
        x.lend(1, 0);
        x.giveBack(1, 0);
        Check.due("no follower behind the van", x.of(1, 0, 1), NONE);
    }

    /** "the reader to whom it is lent (4, 0)" */
    private static void ofWithNoBorrower() {
        LoanArrows x = new LoanArrows(2, 0);
        x.copyAt(0, 1);
        Check.due("nobody at first", x.of(1, 0, 4), 0);
        x.want(1, 0, 1000);
        Check.due("nobody when it is held", x.of(1, 0, 4), 0);
        x.lend(1, 0);
        Check.due("the reader", x.of(1, 0, 4), 1000);
        Check.due("nobody elsewhere", x.of(0, 0, 4), 0);
        x.giveBack(1, 0);
        Check.due("nobody when it is back", x.of(1, 0, 4), 0);
    }

    /** "how many readers are in its queue (3)" */
    private static void ofAnEmptyAndAFullQueue() {
        LoanArrows x = new LoanArrows(2, 0);
        x.copyAt(0, 1);
        for (int i = 0; i < 4; i++) {
            Check.due("readers in the queue", x.of(1, 0, 3), i);
            x.want(1, 0, i + 1);
        }
        Check.due("readers in a full queue", x.of(1, 0, 3), 4);
        Check.badState("one more", () -> x.want(1, 0, 5));
        Check.due("readers behind a refusal", x.of(1, 0, 3), 4);
        for (int i = 3; i >= 0; i--) {
            x.lend(1, 0);
            Check.due("readers behind a loan", x.of(1, 0, 3), i);
            x.giveBack(1, 0);
        }
    }

    private static void ofOneThatIsDown() {
        LoanArrows x = new LoanArrows(2, 0);
        x.copyAt(0, 1);
        x.want(1, 0, 9);
        x.want(1, 0, 8);
        x.lend(1, 0);
        x.crash(1);
        Check.desk(x, 1, 0, 1, NONE, 3, 1, 9);
    }

    /** "NONE when it is not placed" */
    private static void placeOfNoCopy() {
        LoanArrows x = new LoanArrows(2, 0);
        for (int copy = 0; copy < 3; copy++) {
            Check.due("place(" + copy + ")", x.place(copy), NONE);
        }
        x.copyAt(2, 0);
        Check.due("place(2)", x.place(2), 0);
        Check.due("place(1)", x.place(1), NONE);
    }

    /** "or 16 more than that to which its van goes" */
    private static void placeInAVan() {
        for (int n = 2; n <= 12; n++) {
            for (int target = 0; target < n; target++) {
                LoanArrows x = new LoanArrows(n, 2);
                int home = target == 0 ? n - 1 : 0;
                x.copyAt(1, home);
                x.want(target, 1, 1);
                Check.due("place before", x.place(1), home);
                x.deliver(0);
                Check.due("place in a van", x.place(1), 16 + target);
                Check.due("van", x.van(1), target);
                Check.due("place behind", x.place(1), target);
            }
        }
    }

    private static void placeInAVanToOneThatIsDown() {
        LoanArrows x = new LoanArrows(2, 0);
        x.copyAt(0, 1);
        x.want(0, 0, 1);
        x.crash(0);
        x.deliver(0);
        Check.due("place", x.place(0), 16);
    }
}
