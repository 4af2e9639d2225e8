/** Promises 3 to 6, 16 and 18 to 20: want, lend, giveBack, van, reader, chain, served, leads. */
public final class LendingTest {
    public static void main(String[] args) {
        wantOfOneThatKeeps();
        wantOfOneThatIsIdle();
        wantRefusals();
        lendAnswers();
        lendRefusals();
        giveBackWithoutFollower();
        giveBackToAFollower();
        giveBackRefusals();
        aFindGoesOn();
        vanAnswers();
        readerAnswers();
        chainAndLeads();
        servedAnswers();
        Check.end();
    }

    private static void wantOfOneThatKeeps() {
        LoanArrows x = new LoanArrows(3, 1);
        x.copyAt(0, 1);
        Check.due("want(1, 0, 1)", x.want(1, 0, 1), 2);
        Check.desk(x, 1, 0, 1, -1, 2, 1, 0);
        Check.due("want(1, 0, 1000) when it holds", x.want(1, 0, 1000), 2);
        Check.due("no letter", x.pending(), 0);
        x.lend(1, 0);
        Check.due("want(1, 0, 1) of the one it is lent to", x.want(1, 0, 1), 3);
        Check.desk(x, 1, 0, 1, -1, 3, 2, 1);
    }

    private static void wantOfOneThatIsIdle() {
        LoanArrows x = new LoanArrows(3, 1);
        x.copyAt(2, 0);
        Check.due("want(2, 2, 7)", x.want(2, 2, 7), 1);
        Check.desk(x, 2, 2, 2, -1, 1, 1, 0);
        Check.due("pending()", x.pending(), 1);
        Check.packet(x, 0, 0, 2, 1, 0, 2, 2);
        Check.due("want(2, 2, 8) when it waits", x.want(2, 2, 8), 1);
        Check.due("no second letter", x.pending(), 1);
        Check.desk(x, 2, 2, 2, -1, 1, 2, 0);
    }

    private static void wantRefusals() {
        LoanArrows x = new LoanArrows(3, 1);
        Check.badState("want of a copy not placed", () -> x.want(0, 0, 1));
        Check.badArgument("want of a copy not placed by reader 0", () -> x.want(0, 0, 0));
        x.copyAt(0, 1);
        Check.outside("want(3, 0, 1)", () -> x.want(3, 0, 1));
        Check.outside("want(-1, 0, 0)", () -> x.want(-1, 0, 0));
        Check.outside("want(0, 3, 1)", () -> x.want(0, 3, 1));
        Check.outside("want(0, -1, 1001)", () -> x.want(0, -1, 1001));
        Check.badArgument("want(0, 0, 0)", () -> x.want(0, 0, 0));
        Check.badArgument("want(0, 0, -1)", () -> x.want(0, 0, -1));
        Check.badArgument("want(0, 0, 1001)", () -> x.want(0, 0, 1001));
        for (int reader = 1; reader <= 3; reader++) {
            x.want(0, 0, reader);
            int again = reader;
            Check.badState("want by one in the queue", () -> x.want(0, 0, again));
        }
        x.want(0, 0, 1000);
        Check.badState("want when the queue is full", () -> x.want(0, 0, 5));
        Check.badArgument("want(0, 0, 0) when the queue is full", () -> x.want(0, 0, 0));
        Check.desk(x, 0, 0, 0, -1, 1, 4, 0);
        x.crash(2);
        Check.badState("want of one that is down", () -> x.want(2, 0, 1));
        Check.badArgument("want of one that is down by 1001", () -> x.want(2, 0, 1001));
        Check.desk(x, 2, 0, 1, -1, 0, 0, 0);
    }

    private static void lendAnswers() {
        LoanArrows x = new LoanArrows(2, 0);
        x.copyAt(1, 1);
        x.want(1, 1, 30);
        x.want(1, 1, 10);
        x.want(1, 1, 20);
        Check.due("lend(1, 1)", x.lend(1, 1), 30);
        Check.desk(x, 1, 1, 1, -1, 3, 2, 30);
        Check.due("reader(1, 1, 0)", x.reader(1, 1, 0), 10);
        Check.due("reader(1, 1, 1)", x.reader(1, 1, 1), 20);
        Check.due("reader(1, 1, 2)", x.reader(1, 1, 2), LoanArrows.NONE);
    }

    private static void lendRefusals() {
        LoanArrows x = new LoanArrows(2, 0);
        Check.outside("lend(2, 0)", () -> x.lend(2, 0));
        Check.outside("lend(-1, 0)", () -> x.lend(-1, 0));
        Check.outside("lend(0, 3)", () -> x.lend(0, 3));
        Check.outside("lend(0, -1)", () -> x.lend(0, -1));
        Check.badState("lend of a copy not placed", () -> x.lend(0, 0));
        x.copyAt(0, 0);
        Check.badState("lend of one that keeps", () -> x.lend(0, 0));
        Check.badState("lend of one that is idle", () -> x.lend(1, 0));
        x.want(1, 0, 1);
        Check.badState("lend of one that waits", () -> x.lend(1, 0));
        x.want(0, 0, 2);
        x.crash(0);
        Check.badState("lend of one that is down", () -> x.lend(0, 0));
        x.restart(0);
        Check.due("lend(0, 0)", x.lend(0, 0), 2);
        Check.badState("lend of one that has lent", () -> x.lend(0, 0));
    }

    private static void giveBackWithoutFollower() {
        LoanArrows x = new LoanArrows(3, 2);
        x.copyAt(0, 2);
        x.want(2, 0, 5);
        x.want(2, 0, 6);
        x.lend(2, 0);
        Check.due("giveBack with a queue", x.giveBack(2, 0), 2);
        Check.desk(x, 2, 0, 2, -1, 2, 1, 0);
        Check.due("lend to the next", x.lend(2, 0), 6);
        Check.due("giveBack without a queue", x.giveBack(2, 0), 4);
        Check.desk(x, 2, 0, 2, -1, 4, 0, 0);
        Check.due("place(0)", x.place(0), 2);
        Check.due("pending()", x.pending(), 0);
    }

    private static void giveBackToAFollower() {
        LoanArrows x = lentAtZeroWithFollowerOne();
        Check.desk(x, 0, 0, 1, 1, 3, 0, 5);
        Check.due("giveBack to a follower", x.giveBack(0, 0), 0);
        Check.desk(x, 0, 0, 1, -1, 0, 0, 0);
        Check.desk(x, 1, 0, 1, -1, 1, 1, 0);
        Check.due("place(0)", x.place(0), 17);
        Check.due("served(0, 0)", x.served(0, 0), 0);

        LoanArrows y = lentAtZeroWithFollowerOne();
        y.want(0, 0, 7);
        int before = y.pending();
        Check.due("giveBack to a follower with a queue", y.giveBack(0, 0), 1);
        Check.desk(y, 0, 0, 0, -1, 1, 1, 0);
        Check.due("place(0)", y.place(0), 17);
        Check.due("a letter more", y.pending(), before + 1);
        Check.packet(y, before, 0, 0, 1, 0, 0, 0);
        y.deliver(before);
        Check.desk(y, 1, 0, 0, 0, 1, 1, 0);
        y.van(0);
        Check.due("lend(1, 0)", y.lend(1, 0), 6);
        Check.due("giveBack(1, 0)", y.giveBack(1, 0), 0);
        Check.due("place(0) on the way back", y.place(0), 16);
    }

    private static LoanArrows lentAtZeroWithFollowerOne() {
        LoanArrows x = new LoanArrows(2, 0);
        x.copyAt(0, 0);
        x.want(0, 0, 5);
        x.lend(0, 0);
        x.want(1, 0, 6);
        x.deliver(0);
        return x;
    }

    private static void giveBackRefusals() {
        LoanArrows x = new LoanArrows(2, 0);
        Check.outside("giveBack(2, 0)", () -> x.giveBack(2, 0));
        Check.outside("giveBack(-1, 0)", () -> x.giveBack(-1, 0));
        Check.outside("giveBack(0, 3)", () -> x.giveBack(0, 3));
        Check.outside("giveBack(0, -1)", () -> x.giveBack(0, -1));
        Check.badState("giveBack of a copy not placed", () -> x.giveBack(0, 0));
        x.copyAt(0, 0);
        Check.badState("giveBack of one that keeps", () -> x.giveBack(0, 0));
        x.want(0, 0, 1);
        Check.badState("giveBack of one that holds", () -> x.giveBack(0, 0));
        x.lend(0, 0);
        x.crash(0);
        Check.badState("giveBack of one that is down", () -> x.giveBack(0, 0));
        Check.due("no loan was counted", x.served(0, 0), LoanArrows.NONE);
        x.restart(0);
        Check.due("giveBack(0, 0)", x.giveBack(0, 0), 4);
    }

    private static void aFindGoesOn() {
        LoanArrows x = new LoanArrows(3, 1);
        x.copyAt(0, 0);
        x.want(2, 0, 7);
        Check.due("deliver to the one between", x.deliver(0), 1);
        Check.desk(x, 1, 0, 2, -1, 0, 0, 0);
        Check.packet(x, 0, 0, 1, 0, 0, 0, 2);
        Check.packet(x, 1, 1, 1, 2, 0, -1, -1);
        Check.due("deliver to the one that keeps", x.deliver(0), 1);
        Check.desk(x, 0, 0, 1, -1, 0, 0, 0);
        Check.desk(x, 2, 0, 2, -1, 1, 1, 0);
        Check.due("place(0)", x.place(0), 18);

        LoanArrows y = new LoanArrows(2, 0);
        y.copyAt(0, 0);
        y.want(0, 0, 3);
        y.want(1, 0, 4);
        y.deliver(0);
        Check.desk(y, 0, 0, 1, 1, 2, 1, 0);
        Check.due("one that holds keeps the copy", y.place(0), 0);
    }

    private static void vanAnswers() {
        LoanArrows x = new LoanArrows(2, 0);
        Check.outside("van(-1)", () -> x.van(-1));
        Check.outside("van(3)", () -> x.van(3));
        Check.badState("van of a copy not placed", () -> x.van(0));
        x.copyAt(0, 0);
        x.copyAt(1, 0);
        Check.badState("van of a copy in a library", () -> x.van(0));
        x.want(1, 0, 4);
        x.deliver(0);
        Check.badState("van of another copy", () -> x.van(1));
        x.crash(1);
        Check.due("van to one that is down", x.van(0), 1);
        Check.desk(x, 1, 0, 1, -1, 2, 1, 0);
        Check.badState("van once more", () -> x.van(0));
    }

    private static void readerAnswers() {
        LoanArrows x = new LoanArrows(3, 0);
        Check.due("reader of a copy not placed", x.reader(0, 0, 0), LoanArrows.NONE);
        x.copyAt(0, 2);
        for (int i = 0; i < 4; i++) {
            x.want(1, 0, 10 - i);
        }
        for (int i = 0; i < 4; i++) {
            Check.due("reader(1, 0, " + i + ")", x.reader(1, 0, i), 10 - i);
        }
        Check.due("reader(1, 0, 4)", x.reader(1, 0, 4), LoanArrows.NONE);
        Check.due("reader(1, 0, -1)", x.reader(1, 0, -1), LoanArrows.NONE);
        Check.due("reader far", x.reader(1, 0, Integer.MAX_VALUE), LoanArrows.NONE);
        Check.due("reader far below", x.reader(1, 0, Integer.MIN_VALUE), LoanArrows.NONE);
        Check.outside("reader(3, 0, 0)", () -> x.reader(3, 0, 0));
        Check.outside("reader(-1, 0, 0)", () -> x.reader(-1, 0, 0));
        Check.outside("reader(0, 3, 0)", () -> x.reader(0, 3, 0));
        Check.outside("reader(0, -1, 0)", () -> x.reader(0, -1, 0));
    }

    private static void chainAndLeads() {
        LoanArrows x = new LoanArrows(4, 2);
        Check.badState("leads of a copy not placed", () -> x.leads(0, 0));
        Check.due("chain of a copy not placed", x.chain(0, 0), LoanArrows.NONE);
        x.copyAt(0, 0);
        x.want(0, 0, 9);
        x.lend(0, 0);
        checkChain(x, 0);
        for (int library = 1; library <= 3; library++) {
            x.want(library, 0, library);
        }
        checkChain(x, 0);
        checkLeads(x, true, false, false, false);
        x.deliver(0);
        checkChain(x, 0, 1);
        checkLeads(x, true, true, false, false);
        x.deliver(0);
        x.deliver(0);
        checkChain(x, 0, 1);
        checkLeads(x, false, true, false, false);
        Check.due("the packets", x.pending(), 5);
        Check.packet(x, 1, 0, 0, 1, 0, 0, 2);
        Check.packet(x, 3, 0, 0, 2, 0, 0, 3);
        x.deliver(3);
        checkChain(x, 0, 1);
        checkLeads(x, false, true, false, false);
        x.deliver(1);
        checkChain(x, 0, 1, 2, 3);
        checkLeads(x, true, true, true, true);
        x.crash(3);
        x.crash(0);
        checkLeads(x, true, true, true, true);
        x.restart(0);
        x.giveBack(0, 0);
        checkChain(x, 1, 2, 3);
        x.van(0);
        checkChain(x, 1, 2, 3);
        Check.due("chain(0, -1)", x.chain(0, -1), LoanArrows.NONE);
        Check.due("chain far", x.chain(0, Integer.MAX_VALUE), LoanArrows.NONE);
        Check.due("chain far below", x.chain(0, Integer.MIN_VALUE), LoanArrows.NONE);
        Check.due("chain of another copy", x.chain(1, 0), LoanArrows.NONE);
        Check.outside("chain(3, 0)", () -> x.chain(3, 0));
        Check.outside("chain(-1, 0)", () -> x.chain(-1, 0));
        Check.outside("leads(4, 0)", () -> x.leads(4, 0));
        Check.outside("leads(-1, 0)", () -> x.leads(-1, 0));
        Check.outside("leads(0, 3)", () -> x.leads(0, 3));
        Check.outside("leads(0, -1)", () -> x.leads(0, -1));
        Check.outside("leads(4, 1) of a copy not placed", () -> x.leads(4, 1));
    }

    private static void checkChain(LoanArrows x, int... libraries) {
        for (int i = 0; i < libraries.length; i++) {
            Check.due("chain(0, " + i + ")", x.chain(0, i), libraries[i]);
        }
        Check.due("chain(0, " + libraries.length + ")", x.chain(0, libraries.length), LoanArrows.NONE);
    }

    private static void checkLeads(LoanArrows x, boolean... due) {
        for (int library = 0; library < due.length; library++) {
            Check.due("leads(" + library + ", 0)", x.leads(library, 0), due[library]);
        }
    }

    private static void servedAnswers() {
        LoanArrows x = lentAtZeroWithFollowerOne();
        Check.due("served before it is given back", x.served(0, 0), LoanArrows.NONE);
        x.giveBack(0, 0);
        x.van(0);
        x.lend(1, 0);
        x.giveBack(1, 0);
        Check.due("served(0, 0)", x.served(0, 0), 0);
        Check.due("served(0, 1)", x.served(0, 1), 1);
        Check.due("served(0, 2)", x.served(0, 2), LoanArrows.NONE);
        Check.due("served(0, -1)", x.served(0, -1), LoanArrows.NONE);
        Check.due("served far", x.served(0, Integer.MAX_VALUE), LoanArrows.NONE);
        Check.due("served of another copy", x.served(1, 0), LoanArrows.NONE);
        Check.outside("served(3, 0)", () -> x.served(3, 0));
        Check.outside("served(-1, 0)", () -> x.served(-1, 0));

        // So many as an object's 512 calls have room for.
        LoanArrows y = new LoanArrows(2, 0);
        y.copyAt(0, 1);
        for (int i = 0; i < 169; i++) {
            y.want(1, 0, 1);
            y.lend(1, 0);
            y.giveBack(1, 0);
        }
        Check.due("served(0, 168)", y.served(0, 168), 1);
        Check.due("served(0, 169)", y.served(0, 169), LoanArrows.NONE);
    }
}
