/**
 * Many mixed runs over links that lose, double and reorder. What must hold after each is known without a second
 * program: one place for a copy, a chain of waiting libraries, and in the end every reader served once.
 */
public final class WalkTest {
    private static final int CALLS = 512;
    private static final int CALLS_AT_THE_END = 60;

    private static int settledWalks = 0;

    private final LoanArrows x;
    private final int n;
    private final boolean[] down;
    private final int[][] wanted;
    private final String name;
    private final boolean looksUnderWay;
    private long seed;
    private int calls;

    private WalkTest(int n, int shape, long seed) {
        this.n = n;
        this.seed = seed;
        looksUnderWay = seed % 2 == 0;
        name = "walk with n " + n + ", shape " + shape + ", seed " + seed + ": ";
        x = new LoanArrows(n, shape);
        down = new boolean[n];
        wanted = new int[3][n];
    }

    public static void main(String[] args) {
        for (int n = 2; n <= 12; n++) {
            for (int shape = 0; shape <= 2; shape++) {
                for (int seed = 0; seed < 40; seed++) {
                    new WalkTest(n, shape, seed).walk(10 + seed * 3 / 2);
                }
            }
        }
        Check.due("enough walks came to rest", settledWalks > 400, true);
        Check.end();
    }

    private void walk(int steps) {
        for (int copy = 0; copy < 3; copy++) {
            calls++;
            x.copyAt(copy, pick(n));
        }
        for (int i = 0; i < steps; i++) {
            step();
        }
        // Looking at all that is under way takes so many calls that too few would be left to bring it to rest.
        if (looksUnderWay) {
            checkCopies();
        } else if (settle()) {
            checkAllServed();
            settledWalks++;
        }
    }

    private int pick(int bound) {
        seed = seed * 6364136223846793005L + 1442695040888963407L;
        return (int) ((seed >>> 33) % bound);
    }

    private void step() {
        int what = pick(16);
        int pending = x.pending();
        calls += 2;
        if (what < 3) {
            tryWant(pick(n), pick(3), 1 + pick(6));
        } else if (what == 3) {
            toggle(pick(n));
        } else if (what == 4 && pending > 0) {
            Check.due(name + "drop", x.drop(pick(pending)), pending - 1);
        } else if (what == 5 && pending > 0) {
            Check.due(name + "twin", x.twin(pick(pending)), pending < 40);
        } else if (what == 6) {
            trySendAll(pick(n));
        } else if (what < 13 && pending > 0) {
            x.deliver(pick(pending));
        } else {
            moveCopy(pick(3));
        }
    }

    private void tryWant(int library, int copy, int reader) {
        try {
            x.want(library, copy, reader);
            wanted[copy][library]++;
        } catch (IllegalStateException e) {
            // A full queue, a reader in it or a library that is down: the walk goes on without this reader.
        }
    }

    private void trySendAll(int library) {
        if (!down[library]) {
            x.sendAll(library);
        }
    }

    private void toggle(int library) {
        if (down[library]) {
            x.restart(library);
        } else {
            x.crash(library);
        }
        down[library] = !down[library];
    }

    /** Answers whether it moved: a van arrives, or the copy is lent or given back. */
    private boolean moveCopy(int copy) {
        calls += 3;
        int place = x.place(copy);
        if (place >= 16) {
            Check.due(name + "van", x.van(copy), place - 16);
            return true;
        }
        int state = x.of(place, copy, 2);
        if (down[place] || state == 4) {
            return false;
        }
        if (state == 2) {
            x.lend(place, copy);
        } else {
            x.giveBack(place, copy);
        }
        return true;
    }

    /** Brings all to rest, and answers false when the calls did not suffice. */
    private boolean settle() {
        for (int library = 0; library < n; library++) {
            if (down[library]) {
                calls++;
                toggle(library);
            }
        }
        while (calls < CALLS - CALLS_AT_THE_END) {
            calls += 3;
            if (x.pending() > 0) {
                x.deliver(x.pending() - 1);
            } else if (!moveCopy(0) & !moveCopy(1) & !moveCopy(2)) {
                if (x.quiet()) {
                    return true;
                }
                calls += n;
                for (int library = 0; library < n; library++) {
                    x.sendAll(library);
                }
            }
        }
        return false;
    }

    private void checkAllServed() {
        for (int copy = 0; copy < 3; copy++) {
            int[] seen = new int[n];
            for (int i = 0; x.served(copy, i) != LoanArrows.NONE; i++) {
                seen[x.served(copy, i)]++;
            }
            for (int library = 0; library < n; library++) {
                Check.due(name + "loans of copy " + copy + " in " + library, seen[library], wanted[copy][library]);
                Check.due(name + "leads at rest", x.leads(library, copy), true);
            }
            Check.due(name + "the chain at rest", x.chain(copy, 1), LoanArrows.NONE);
            Check.due(name + "the state at rest", x.of(x.place(copy), copy, 2), 4);
        }
    }

    private void checkCopies() {
        for (int copy = 0; copy < 3; copy++) {
            int place = x.place(copy);
            for (int library = 0; library < n; library++) {
                checkDesk(library, copy, place);
            }
            checkChain(copy, place);
        }
    }

    private void checkDesk(int library, int copy, int place) {
        int state = x.of(library, copy, 2);
        int queued = x.of(library, copy, 3);
        boolean pointsToItself = x.of(library, copy, 0) == library;
        boolean followed = x.of(library, copy, 1) != LoanArrows.NONE;
        String where = name + "copy " + copy + " in " + library + " ";
        Check.due(where + "is there", state >= 2, place == library);
        Check.due(where + "points to itself", pointsToItself, state != 0 && !followed);
        Check.due(where + "has a borrower", x.of(library, copy, 4) > 0, state == 3);
        if (state == 0 || state == 4) {
            Check.due(where + "is followed", followed, false);
            Check.due(where + "has readers", queued, 0);
        } else if (state != 3) {
            Check.due(where + "has readers", queued > 0, true);
        }
        if (place == 16 + library) {
            Check.due(where + "waits for the van", state, 1);
        }
        calls += 5;
    }

    private void checkChain(int copy, int place) {
        boolean[] seen = new boolean[n];
        int last = LoanArrows.NONE;
        for (int i = 0; i <= n && x.chain(copy, i) != LoanArrows.NONE; i++) {
            last = x.chain(copy, i);
            Check.due(name + "chain comes back to " + last, seen[last], false);
            Check.due(name + "chain member waits", i == 0 || x.of(last, copy, 2) == 1, true);
            seen[last] = true;
        }
        Check.due(name + "chain begins", x.chain(copy, 0), place % 16);
        Check.due(name + "the last of the chain leads", x.leads(last, copy), true);
    }
}
