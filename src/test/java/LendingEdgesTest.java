/** The boundary cases of promises 3 to 6, 16 and 18 to 20, one test for each sentence that names one. */
public final class LendingEdgesTest {
    private static final int NONE = LoanArrows.NONE;

    public static void main(String[] args) {
        theFirstAndTheLastReader();
        readersTooSmallAndTooLarge();
        theArgumentIsLookedAtBeforeTheState();
        aFullQueueInEachState();
        aLoanMakesRoomInAFullQueue();
        aReaderInEachSeatOfTheQueue();
        aReaderWhoHasLeftTheQueue();
        oneReaderInSeveralQueues();
        wantOpensOnlyFromIdleAndKeeping();
        wantWithAFullPost();
        lendTheLastReader();
        lendThroughTheQueueAndRound();
        giveBackInEachOfFourWays();
        giveBackWithAFullPost();
        giveBackCountsOnlyWhatWasLent();
        aFindFindsEachState();
        vanInNoVan();
        vanToOneThatIsDown();
        threeVansAtOnce();
        readerOfAnEmptyAndAFullQueue();
        readerOfACopyThatIsNotPlaced();
        readerOfOneThatIsDown();
        chainOfNoCopy();
        chainOfOne();
        chainOfAll();
        chainFromAVan();
        servedWhenNoneWasGivenBack();
        servedByEachCopyApart();
        servedKnowsTheFirst200();
        leadsThroughOnesThatAreDown();
        leadsFromTheFarEnd();
        leadsAstrayWhileALetterIsUnderWay();
        the512thCall();
        Check.end();
    }

    /** "IllegalArgumentException when reader is not 1 .. 1000" */
    private static void theFirstAndTheLastReader() {
        LoanArrows x = new LoanArrows(2, 0);
        x.copyAt(0, 0);
        Check.due("want by 1", x.want(0, 0, 1), 2);
        Check.due("want by 1000", x.want(0, 0, 1000), 2);
        Check.due("lend to 1", x.lend(0, 0), 1);
        x.giveBack(0, 0);
        Check.due("lend to 1000", x.lend(0, 0), 1000);
    }

    private static void readersTooSmallAndTooLarge() {
        int[] others = {0, -1, -1000, 1001, 1002, 65537, Integer.MIN_VALUE, Integer.MAX_VALUE};
        for (int reader : others) {
            LoanArrows x = new LoanArrows(2, 0);
            x.copyAt(0, 0);
            Check.badArgument("want by " + reader, () -> x.want(0, 0, reader));
            Check.desk(x, 0, 0, 0, NONE, 4, 0, 0);
        }
    }

    private static void theArgumentIsLookedAtBeforeTheState() {
        LoanArrows x = new LoanArrows(2, 0);
        Check.badArgument("want by 0, not placed", () -> x.want(0, 0, 0));
        Check.outside("want by 0 in 2, not placed", () -> x.want(2, 0, 0));
        x.copyAt(0, 0);
        fillQueue(x, 0);
        Check.badArgument("want by 1001, full", () -> x.want(0, 0, 1001));
        x.crash(0);
        Check.badArgument("want by 0, down", () -> x.want(0, 0, 0));
        Check.outside("want by 0 for copy 3, down", () -> x.want(0, 3, 0));
    }

    private static void fillQueue(LoanArrows x, int library) {
        for (int reader = 1; reader <= 4; reader++) {
            x.want(library, 0, reader);
        }
    }

    /** "IllegalStateException when ... the queue is full" */
    private static void aFullQueueInEachState() {
        LoanArrows holding = new LoanArrows(2, 0);
        holding.copyAt(0, 0);
        fillQueue(holding, 0);
        checkFull(holding, 0, 2);

        LoanArrows waiting = new LoanArrows(2, 0);
        waiting.copyAt(0, 0);
        fillQueue(waiting, 1);
        checkFull(waiting, 1, 1);

        LoanArrows lent = new LoanArrows(2, 0);
        lent.copyAt(0, 0);
        lent.want(0, 0, 9);
        lent.lend(0, 0);
        fillQueue(lent, 0);
        checkFull(lent, 0, 3);
    }

    private static void checkFull(LoanArrows x, int library, int state) {
        Check.badState("want by a fifth in state " + state, () -> x.want(library, 0, 5));
        Check.due("the state", x.of(library, 0, 2), state);
        Check.due("the queue", x.of(library, 0, 3), 4);
        for (int i = 0; i < 4; i++) {
            Check.due("reader " + i, x.reader(library, 0, i), i + 1);
        }
    }

    private static void aLoanMakesRoomInAFullQueue() {
        LoanArrows x = new LoanArrows(2, 0);
        x.copyAt(0, 0);
        fillQueue(x, 0);
        x.lend(0, 0);
        Check.due("want by a fifth", x.want(0, 0, 5), 3);
        Check.badState("want by a sixth", () -> x.want(0, 0, 6));
        for (int i = 0; i < 4; i++) {
            Check.due("reader " + i, x.reader(0, 0, i), i + 2);
        }
    }

    /** "or the reader is in it" */
    private static void aReaderInEachSeatOfTheQueue() {
        LoanArrows x = new LoanArrows(2, 0);
        x.copyAt(0, 0);
        for (int reader = 1; reader <= 3; reader++) {
            x.want(0, 0, reader);
            for (int seat = 1; seat <= reader; seat++) {
                int again = seat;
                Check.badState("want by " + seat + " of " + reader, () -> x.want(0, 0, again));
            }
        }
        Check.due("the queue", x.of(0, 0, 3), 3);
    }

    private static void aReaderWhoHasLeftTheQueue() {
        LoanArrows x = new LoanArrows(2, 0);
        x.copyAt(0, 0);
        x.want(0, 0, 7);
        x.lend(0, 0);
        Check.due("want by the borrower", x.want(0, 0, 7), 3);
        Check.badState("want by the borrower again", () -> x.want(0, 0, 7));
        Check.due("giveBack", x.giveBack(0, 0), 2);
        Check.due("lend to the same", x.lend(0, 0), 7);
        Check.due("giveBack", x.giveBack(0, 0), 4);
        Check.due("want by the same", x.want(0, 0, 7), 2);
    }

    private static void oneReaderInSeveralQueues() {
        LoanArrows x = new LoanArrows(2, 0);
        x.copyAt(0, 0);
        x.copyAt(1, 0);
        Check.due("want(0, 0, 7)", x.want(0, 0, 7), 2);
        Check.due("want(0, 1, 7) for another copy", x.want(0, 1, 7), 2);
        Check.due("want(1, 0, 7) in another library", x.want(1, 0, 7), 1);
    }

    /** "if it is IDLE or KEEPING it opens a request: the state then" */
    private static void wantOpensOnlyFromIdleAndKeeping() {
        LoanArrows x = new LoanArrows(2, 0);
        x.copyAt(0, 0);
        Check.due("want, keeping", x.want(0, 0, 1), 2);
        Check.due("want, holding", x.want(0, 0, 2), 2);
        x.lend(0, 0);
        Check.due("want, lent", x.want(0, 0, 3), 3);
        Check.due("no letter of one that has it", x.pending(), 0);
        Check.due("want, idle", x.want(1, 0, 1), 1);
        Check.due("one letter", x.pending(), 1);
        Check.due("want, waiting", x.want(1, 0, 2), 1);
        Check.due("no second letter", x.pending(), 1);
        Check.due("no second letter in the line", x.sendAll(1), 1);
    }

    /** "a packet that is put into it is put at its end, or lost when it is full" */
    private static void wantWithAFullPost() {
        LoanArrows x = new LoanArrows(3, 2);
        x.copyAt(0, 0);
        x.want(1, 0, 1);
        fillPost(x);
        Check.due("want", x.want(2, 0, 1), 1);
        Check.desk(x, 2, 0, 2, NONE, 1, 1, 0);
        Check.due("pending()", x.pending(), 40);
        Check.packet(x, 39, 0, 1, 0, 0, 0, 1);
        x.drop(0);
        Check.due("its letter waits", x.sendAll(2), 1);
        Check.packet(x, 39, 0, 2, 0, 0, 0, 2);
    }

    private static void fillPost(LoanArrows x) {
        for (int i = x.pending(); i < 40; i++) {
            x.twin(0);
        }
    }

    /** "lent to the first reader of the queue (who leaves it)" */
    private static void lendTheLastReader() {
        LoanArrows x = new LoanArrows(2, 0);
        x.copyAt(0, 0);
        x.want(0, 0, 7);
        Check.due("lend", x.lend(0, 0), 7);
        Check.desk(x, 0, 0, 0, NONE, 3, 0, 7);
        Check.due("reader(0, 0, 0)", x.reader(0, 0, 0), NONE);
    }

    private static void lendThroughTheQueueAndRound() {
        LoanArrows x = new LoanArrows(2, 0);
        x.copyAt(0, 0);
        fillQueue(x, 0);
        for (int i = 1; i <= 20; i++) {
            Check.due("lend " + i, x.lend(0, 0), i);
            Check.due("want " + i, x.want(0, 0, i + 4), 3);
            Check.due("giveBack " + i, x.giveBack(0, 0), 2);
        }
        for (int i = 21; i <= 24; i++) {
            Check.due("lend " + i, x.lend(0, 0), i);
            Check.due("giveBack " + i, x.giveBack(0, 0), i == 24 ? 4 : 2);
        }
    }

    /** "If there is a follower the copy is sent on, and, if the queue is not empty, a request opened; otherwise ..." */
    private static void giveBackInEachOfFourWays() {
        checkGiveBack(false, false, 4, 0, 0, 0);
        checkGiveBack(false, true, 2, 0, 0, 0);
        checkGiveBack(true, false, 0, 17, 1, 1);
        checkGiveBack(true, true, 1, 17, 0, 2);
    }

    private static void checkGiveBack(boolean followed, boolean queue, int state, int place, int arrow, int pending) {
        LoanArrows x = new LoanArrows(2, 0);
        x.copyAt(0, 0);
        x.want(0, 0, 5);
        x.lend(0, 0);
        if (followed) {
            x.want(1, 0, 6);
            x.deliver(0);
        }
        if (queue) {
            x.want(0, 0, 7);
        }
        String way = "giveBack" + (followed ? " with" : " without") + " a follower, "
                + (queue ? "with" : "without") + " a queue: ";
        Check.due(way + "answer", x.giveBack(0, 0), state);
        Check.due(way + "state", x.of(0, 0, 2), state);
        Check.due(way + "place", x.place(0), place);
        Check.due(way + "arrow", x.of(0, 0, 0), arrow);
        Check.due(way + "follower", x.of(0, 0, 1), NONE);
        Check.due(way + "borrower", x.of(0, 0, 4), 0);
        Check.due(way + "pending", x.pending(), pending);
        Check.due(way + "loans", x.served(0, 0), 0);
        Check.due(way + "no more loans", x.served(0, 1), NONE);
    }

    private static void giveBackWithAFullPost() {
        LoanArrows x = new LoanArrows(2, 0);
        x.copyAt(0, 0);
        x.want(0, 0, 5);
        x.lend(0, 0);
        x.want(0, 0, 7);
        x.want(1, 0, 6);
        x.deliver(0);
        fillPost(x);
        Check.due("giveBack", x.giveBack(0, 0), 1);
        Check.due("place(0)", x.place(0), 17);
        Check.due("pending()", x.pending(), 40);
        Check.packet(x, 39, 1, 0, 1, 0, NONE, NONE);
        Check.due("quiet()", x.quiet(), false);
        x.drop(39);
        Check.due("its letter waits", x.sendAll(0), 1);
        Check.packet(x, 39, 0, 0, 1, 0, 0, 0);
    }

    private static void giveBackCountsOnlyWhatWasLent() {
        LoanArrows x = new LoanArrows(2, 0);
        x.copyAt(0, 0);
        x.want(0, 0, 5);
        Check.badState("giveBack, holding", () -> x.giveBack(0, 0));
        x.lend(0, 0);
        Check.badState("giveBack elsewhere", () -> x.giveBack(1, 0));
        Check.badState("giveBack of another copy", () -> x.giveBack(0, 1));
        x.giveBack(0, 0);
        Check.badState("giveBack once more", () -> x.giveBack(0, 0));
        Check.due("served(0, 0)", x.served(0, 0), 0);
        Check.due("served(0, 1)", x.served(0, 1), NONE);
    }

    /** "If it pointed to itself, the asker is its follower; if it is KEEPING, it SENDS THE COPY ON" */
    private static void aFindFindsEachState() {
        LoanArrows keeping = new LoanArrows(2, 0);
        keeping.copyAt(0, 0);
        checkFind(keeping, 0, 1, 0, NONE, 17);

        LoanArrows holding = new LoanArrows(2, 0);
        holding.copyAt(0, 0);
        holding.want(0, 0, 5);
        checkFind(holding, 0, 1, 2, 1, 0);

        LoanArrows lent = new LoanArrows(2, 0);
        lent.copyAt(0, 0);
        lent.want(0, 0, 5);
        lent.lend(0, 0);
        checkFind(lent, 0, 1, 3, 1, 0);

        LoanArrows waiting = new LoanArrows(3, 1);
        waiting.copyAt(0, 0);
        waiting.want(1, 0, 5);
        checkFind(waiting, 1, 2, 1, 2, 0);

        LoanArrows idle = new LoanArrows(3, 1);
        idle.copyAt(0, 0);
        checkFind(idle, 1, 2, 0, NONE, 0);
        Check.packet(idle, 0, 0, 1, 0, 0, 0, 2);
    }

    private static void checkFind(LoanArrows x, int taker, int asker, int state, int follower, int place) {
        x.want(asker, 0, 9);
        Check.due("the letter is taken", x.deliver(x.pending() - 1), 1);
        Check.due("the arrow", x.of(taker, 0, 0), asker);
        Check.due("the follower", x.of(taker, 0, 1), follower);
        Check.due("the state", x.of(taker, 0, 2), state);
        Check.due("the place", x.place(0), place);
    }

    /** "IllegalStateException when it is in no van" */
    private static void vanInNoVan() {
        LoanArrows x = new LoanArrows(2, 0);
        Check.badState("van, not placed", () -> x.van(0));
        x.copyAt(0, 0);
        Check.badState("van, kept", () -> x.van(0));
        x.want(0, 0, 5);
        Check.badState("van, held", () -> x.van(0));
        x.lend(0, 0);
        Check.badState("van, lent", () -> x.van(0));
        x.want(1, 0, 6);
        Check.badState("van, asked for", () -> x.van(0));
        x.deliver(0);
        Check.badState("van, lent with a follower", () -> x.van(0));
        x.giveBack(0, 0);
        Check.due("van", x.van(0), 1);
        Check.badState("van once more", () -> x.van(0));
    }

    /** "(Also when that library is down: it is HOLDING all the same.)" */
    private static void vanToOneThatIsDown() {
        LoanArrows x = new LoanArrows(2, 0);
        x.copyAt(0, 0);
        x.want(1, 0, 6);
        x.deliver(0);
        x.crash(1);
        Check.due("van", x.van(0), 1);
        Check.desk(x, 1, 0, 1, NONE, 2, 1, 0);
        Check.badState("lend, down", () -> x.lend(1, 0));
        x.restart(1);
        Check.due("lend", x.lend(1, 0), 6);
    }

    private static void threeVansAtOnce() {
        LoanArrows x = new LoanArrows(4, 2);
        for (int copy = 0; copy < 3; copy++) {
            x.copyAt(copy, 0);
            x.want(copy + 1, copy, 1);
        }
        for (int copy = 0; copy < 3; copy++) {
            x.deliver(0);
        }
        for (int copy = 2; copy >= 0; copy--) {
            Check.due("van(" + copy + ")", x.van(copy), copy + 1);
            Check.due("place", x.place(copy), copy + 1);
            for (int other = 0; other < copy; other++) {
                Check.due("place of another", x.place(other), 17 + other);
            }
        }
    }

    /** "Reader i (from 0) of a queue; NONE when there are not so many" */
    private static void readerOfAnEmptyAndAFullQueue() {
        LoanArrows x = new LoanArrows(2, 0);
        x.copyAt(0, 0);
        for (int count = 0; count <= 4; count++) {
            for (int i = 0; i < count; i++) {
                Check.due("reader " + i + " of " + count, x.reader(1, 0, i), 11 + i);
            }
            int[] others = {count, count + 1, 4, 5, -1, -4, Integer.MIN_VALUE, Integer.MAX_VALUE};
            for (int i : others) {
                Check.due("reader " + i + " of " + count, x.reader(1, 0, i), NONE);
            }
            if (count < 4) {
                x.want(1, 0, 11 + count);
            }
        }
    }

    private static void readerOfACopyThatIsNotPlaced() {
        LoanArrows x = new LoanArrows(2, 0);
        for (int i = -1; i <= 4; i++) {
            Check.due("reader(1, 2, " + i + ")", x.reader(1, 2, i), NONE);
        }
    }

    private static void readerOfOneThatIsDown() {
        LoanArrows x = new LoanArrows(2, 0);
        x.copyAt(0, 0);
        x.want(1, 0, 5);
        x.crash(1);
        Check.due("reader(1, 0, 0)", x.reader(1, 0, 0), 5);
        Check.due("reader(1, 0, 1)", x.reader(1, 0, 1), NONE);
    }

    /** "NONE when there are not so many" */
    private static void chainOfNoCopy() {
        LoanArrows x = new LoanArrows(2, 0);
        for (int i = -1; i <= 2; i++) {
            Check.due("chain(0, " + i + ")", x.chain(0, i), NONE);
        }
    }

    private static void chainOfOne() {
        LoanArrows x = new LoanArrows(12, 2);
        x.copyAt(2, 11);
        checkChain(x, 2, 11);
        x.want(11, 2, 1);
        checkChain(x, 2, 11);
        x.lend(11, 2);
        checkChain(x, 2, 11);
    }

    private static void checkChain(LoanArrows x, int copy, int... members) {
        for (int i = 0; i < members.length; i++) {
            Check.due("chain(" + copy + ", " + i + ")", x.chain(copy, i), members[i]);
        }
        int count = members.length;
        int[] others = {count, count + 1, 12, 13, 100, -1, Integer.MIN_VALUE, Integer.MAX_VALUE};
        for (int i : others) {
            Check.due("chain(" + copy + ", " + i + ") of " + count, x.chain(copy, i), NONE);
        }
    }

    /** The longest chain: every library of the largest tree. */
    private static void chainOfAll() {
        LoanArrows x = new LoanArrows(12, 1);
        x.copyAt(0, 0);
        x.want(0, 0, 1);
        for (int library = 1; library < 12; library++) {
            x.want(library, 0, 1);
            x.deliver(x.pending() - 1);
            x.deliver(x.pending() - 1);
        }
        checkChain(x, 0, 0, 1, 2, 3, 4, 5, 6, 7, 8, 9, 10, 11);
        for (int library = 0; library < 12; library++) {
            Check.due("leads(" + library + ", 0)", x.leads(library, 0), true);
            Check.due("the follower", x.of(library, 0, 1), library == 11 ? NONE : library + 1);
        }
        for (int library = 0; library < 12; library++) {
            Check.due("lend", x.lend(library, 0), 1);
            Check.due("giveBack", x.giveBack(library, 0), library == 11 ? 4 : 0);
            if (library < 11) {
                Check.due("van", x.van(0), library + 1);
            }
        }
        checkChain(x, 0, 11);
        for (int i = 0; i < 12; i++) {
            Check.due("served", x.served(0, i), i);
        }
    }

    /** "the one where it is or to which its van goes" */
    private static void chainFromAVan() {
        LoanArrows x = new LoanArrows(3, 1);
        x.copyAt(0, 2);
        x.want(1, 0, 1);
        x.deliver(0);
        checkChain(x, 0, 1);
        x.want(0, 0, 1);
        x.deliver(x.pending() - 1);
        Check.due("place(0)", x.place(0), 17);
        checkChain(x, 0, 1, 0);
        x.van(0);
        checkChain(x, 0, 1, 0);
    }

    /** "that was given back; NONE when there are not so many" */
    private static void servedWhenNoneWasGivenBack() {
        LoanArrows x = new LoanArrows(2, 0);
        checkServed(x, 0);
        x.copyAt(0, 1);
        x.want(1, 0, 1);
        checkServed(x, 0);
        x.lend(1, 0);
        checkServed(x, 0);
        x.giveBack(1, 0);
        checkServed(x, 0, 1);
    }

    private static void checkServed(LoanArrows x, int copy, int... libraries) {
        for (int i = 0; i < libraries.length; i++) {
            Check.due("served(" + copy + ", " + i + ")", x.served(copy, i), libraries[i]);
        }
        int count = libraries.length;
        int[] others = {count, count + 1, 199, 200, 201, -1, Integer.MIN_VALUE, Integer.MAX_VALUE};
        for (int i : others) {
            Check.due("served(" + copy + ", " + i + ") of " + count, x.served(copy, i), NONE);
        }
    }

    private static void servedByEachCopyApart() {
        LoanArrows x = new LoanArrows(3, 0);
        for (int copy = 0; copy < 3; copy++) {
            x.copyAt(copy, 2 - copy);
            for (int loan = 0; loan <= copy; loan++) {
                x.want(2 - copy, copy, 1);
                x.lend(2 - copy, copy);
                x.giveBack(2 - copy, copy);
            }
        }
        checkServed(x, 0, 2);
        checkServed(x, 1, 1, 1);
        checkServed(x, 2, 0, 0, 0);
    }

    /**
     * "(only the first 200 are known)": so many take 600 calls, and the answers of calls beyond the 512th are free;
     * what is looked at here is that the class keeps to the sentence all the same, and throws nothing.
     */
    private static void servedKnowsTheFirst200() {
        LoanArrows x = new LoanArrows(2, 0);
        x.copyAt(0, 1);
        for (int loan = 1; loan <= 202; loan++) {
            x.want(1, 0, 1);
            x.lend(1, 0);
            x.giveBack(1, 0);
            Check.due("the last known of " + loan, x.served(0, Math.min(loan, 200) - 1), 1);
            Check.due("one more than known of " + loan, x.served(0, Math.min(loan, 200)), NONE);
        }
    }

    /** "from a library (up or down)" */
    private static void leadsThroughOnesThatAreDown() {
        LoanArrows x = new LoanArrows(4, 1);
        x.copyAt(0, 0);
        for (int library = 0; library < 4; library++) {
            x.crash(library);
        }
        for (int library = 0; library < 4; library++) {
            Check.due("leads(" + library + ", 0)", x.leads(library, 0), true);
        }
    }

    private static void leadsFromTheFarEnd() {
        for (int shape = 0; shape <= 2; shape++) {
            LoanArrows x = new LoanArrows(12, shape);
            x.copyAt(0, 0);
            x.copyAt(1, 11);
            Check.due("leads(11, 0)", x.leads(11, 0), true);
            Check.due("leads(0, 1)", x.leads(0, 1), true);
            Check.badState("leads(0, 2), not placed", () -> x.leads(0, 2));
        }
    }

    private static void leadsAstrayWhileALetterIsUnderWay() {
        LoanArrows x = new LoanArrows(3, 1);
        x.copyAt(0, 0);
        x.want(2, 0, 1);
        Check.due("leads(0, 0)", x.leads(0, 0), true);
        Check.due("leads(1, 0)", x.leads(1, 0), true);
        Check.due("leads(2, 0) behind its letter", x.leads(2, 0), false);
        x.deliver(0);
        Check.due("leads(1, 0) behind the letter", x.leads(1, 0), false);
        Check.due("leads(0, 0)", x.leads(0, 0), true);
        x.deliver(0);
        for (int library = 0; library < 3; library++) {
            Check.due("leads(" + library + ", 0) to the van's end", x.leads(library, 0), true);
        }
    }

    /** "An object is used for at most 512 calls after it has been made" */
    private static void the512thCall() {
        LoanArrows x = new LoanArrows(2, 0);
        x.copyAt(0, 1);
        for (int loan = 0; loan < 170; loan++) {
            x.want(1, 0, 1 + loan);
            Check.due("lend", x.lend(1, 0), 1 + loan);
            Check.due("giveBack", x.giveBack(1, 0), 4);
        }
        Check.due("the 512th call", x.served(0, 169), 1);
    }
}
