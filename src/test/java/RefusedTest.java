import java.util.ArrayList;
import java.util.List;

/**
 * Every refused call of every promise: it throws what the document says, and leaves no trace. Each is tried on an
 * object of its own, and that is held beside a second one, made alike, on which it was not tried.
 */
public final class RefusedTest {
    private static final int[] NO_COPY = {-1, 3, Integer.MIN_VALUE, Integer.MAX_VALUE};

    private interface Maker {
        LoanArrows make();
    }

    private interface Call {
        void on(LoanArrows x);
    }

    private static final class Refusal {
        private final String name;
        private final Class<? extends RuntimeException> due;
        private final Call call;

        Refusal(String name, Class<? extends RuntimeException> due, Call call) {
            this.name = name;
            this.due = due;
            this.call = call;
        }
    }

    private final String situation;
    private final int n;
    private final Maker maker;
    private final List<Refusal> refusals = new ArrayList<>();

    private RefusedTest(String situation, int n, Maker maker) {
        this.situation = situation;
        this.n = n;
        this.maker = maker;
    }

    public static void main(String[] args) {
        onANewObject();
        onABusyObject();
        onAFullPost();
        onOneThatIsDown();
        onOneThatKeeps();
        Check.end();
    }

    private void outside(String name, Call call) {
        refusals.add(new Refusal(name, IndexOutOfBoundsException.class, call));
    }

    private void badArgument(String name, Call call) {
        refusals.add(new Refusal(name, IllegalArgumentException.class, call));
    }

    private void badState(String name, Call call) {
        refusals.add(new Refusal(name, IllegalStateException.class, call));
    }

    private void tryAll() {
        for (Refusal refusal : refusals) {
            LoanArrows tried = maker.make();
            LoanArrows beside = maker.make();
            String name = situation + ": " + refusal.name;
            Check.thrown(name, refusal.due, () -> refusal.call.on(tried));
            Check.due(name + " leaves no trace", Look.through(tried, n), Look.through(beside, n));
        }
    }

    private static void onANewObject() {
        RefusedTest test = new RefusedTest("a new object", 3, () -> new LoanArrows(3, 1));
        test.noSuchLibrary(0);
        test.noSuchCopy();
        test.noSuchPacket(0);
        test.noSuchReader(0, 0);
        test.badState("want, not placed", x -> x.want(0, 0, 1));
        test.badState("lend, not placed", x -> x.lend(0, 0));
        test.badState("giveBack, not placed", x -> x.giveBack(0, 0));
        test.badState("van, not placed", x -> x.van(0));
        test.badState("leads, not placed", x -> x.leads(0, 0));
        test.badState("restart, up", x -> x.restart(0));
        test.tryAll();
    }

    /** Copy 0 is lent in 0 and 1 waits for it, copy 1 is in a van to 2, which is down, copy 2 is not placed. */
    private static LoanArrows busy() {
        LoanArrows x = new LoanArrows(3, 1);
        x.copyAt(0, 0);
        x.want(0, 0, 5);
        x.want(0, 0, 6);
        x.lend(0, 0);
        for (int reader = 1; reader <= 4; reader++) {
            x.want(1, 0, reader);
        }
        x.deliver(0);
        x.copyAt(1, 1);
        x.want(2, 1, 7);
        x.deliver(1);
        x.crash(2);
        return x;
    }

    private static void onABusyObject() {
        RefusedTest test = new RefusedTest("a busy object", 3, RefusedTest::busy);
        test.noSuchLibrary(0);
        test.noSuchCopy();
        test.noSuchPacket(2);
        test.noSuchReader(0, 0);
        test.noSuchReader(1, 0);
        test.noSuchReader(2, 1);
        test.noSuchReader(0, 2);
        test.badState("copyAt, placed there", x -> x.copyAt(0, 0));
        test.badState("copyAt, placed elsewhere", x -> x.copyAt(0, 2));
        test.badState("copyAt, in a van", x -> x.copyAt(1, 1));
        test.badState("want, not placed", x -> x.want(0, 2, 1));
        test.badState("want, not placed and down", x -> x.want(2, 2, 1));
        test.badState("want, down", x -> x.want(2, 1, 8));
        test.badState("want, the queue is full", x -> x.want(1, 0, 9));
        test.badState("want, the queue is full and has the first", x -> x.want(1, 0, 1));
        test.badState("want, the reader is in the queue", x -> x.want(0, 0, 6));
        test.badState("lend, not placed", x -> x.lend(0, 2));
        test.badState("lend, idle", x -> x.lend(1, 1));
        test.badState("lend, waiting", x -> x.lend(1, 0));
        test.badState("lend, lent", x -> x.lend(0, 0));
        test.badState("lend, down", x -> x.lend(2, 1));
        test.badState("giveBack, not placed", x -> x.giveBack(0, 2));
        test.badState("giveBack, idle", x -> x.giveBack(1, 1));
        test.badState("giveBack, waiting", x -> x.giveBack(1, 0));
        test.badState("giveBack, down", x -> x.giveBack(2, 1));
        test.badState("van, lent", x -> x.van(0));
        test.badState("van, not placed", x -> x.van(2));
        test.badState("sendAll, down", x -> x.sendAll(2));
        test.badState("crash, down", x -> x.crash(2));
        test.badState("restart, up", x -> x.restart(0));
        test.badState("restart, up, with a letter", x -> x.restart(1));
        test.badState("leads, not placed", x -> x.leads(0, 2));
        test.badState("leads, not placed, down", x -> x.leads(2, 2));
        test.tryAll();
    }

    private static LoanArrows fullPost() {
        LoanArrows x = new LoanArrows(2, 0);
        x.copyAt(0, 0);
        x.want(1, 0, 5);
        for (int i = 1; i < 40; i++) {
            x.twin(0);
        }
        return x;
    }

    private static void onAFullPost() {
        RefusedTest test = new RefusedTest("a full post", 2, RefusedTest::fullPost);
        test.noSuchPacket(40);
        test.badState("want, the reader is in the queue", x -> x.want(1, 0, 5));
        test.badState("restart, up", x -> x.restart(1));
        test.tryAll();
    }

    /** Library 0 holds copy 0, has lent copy 1 and keeps copy 2, and is down; so is 1, with nothing. */
    private static LoanArrows allDown() {
        LoanArrows x = new LoanArrows(2, 0);
        for (int copy = 0; copy < 3; copy++) {
            x.copyAt(copy, 0);
        }
        x.want(0, 0, 5);
        x.want(0, 1, 6);
        x.lend(0, 1);
        x.crash(0);
        x.crash(1);
        return x;
    }

    private static void onOneThatIsDown() {
        RefusedTest test = new RefusedTest("all down", 2, RefusedTest::allDown);
        test.badState("want, idle", x -> x.want(1, 0, 1));
        test.badState("want, keeping", x -> x.want(0, 2, 1));
        test.badState("want, holding", x -> x.want(0, 0, 1));
        test.badState("want, lent", x -> x.want(0, 1, 1));
        test.badState("lend, holding", x -> x.lend(0, 0));
        test.badState("giveBack, lent", x -> x.giveBack(0, 1));
        test.badState("sendAll", x -> x.sendAll(0));
        test.badState("crash 0", x -> x.crash(0));
        test.badState("crash 1", x -> x.crash(1));
        test.noSuchReader(0, 0);
        test.noSuchLibrary(0);
        test.tryAll();
    }

    private static LoanArrows keepsAndHolds() {
        LoanArrows x = new LoanArrows(2, 0);
        x.copyAt(0, 0);
        x.copyAt(1, 0);
        x.want(0, 1, 5);
        return x;
    }

    private static void onOneThatKeeps() {
        RefusedTest test = new RefusedTest("one that keeps and holds", 2, RefusedTest::keepsAndHolds);
        test.badState("lend, keeping", x -> x.lend(0, 0));
        test.badState("lend, idle", x -> x.lend(1, 1));
        test.badState("giveBack, keeping", x -> x.giveBack(0, 0));
        test.badState("giveBack, holding", x -> x.giveBack(0, 1));
        test.badState("giveBack, idle", x -> x.giveBack(1, 0));
        test.badState("van, kept", x -> x.van(0));
        test.badState("van, held", x -> x.van(1));
        test.badState("copyAt, kept", x -> x.copyAt(0, 1));
        test.tryAll();
    }

    private void noSuchLibrary(int copy) {
        int[] none = {-1, n, Integer.MIN_VALUE, Integer.MAX_VALUE};
        for (int library : none) {
            outside("copyAt, no library " + library, x -> x.copyAt(copy, library));
            outside("want, no library " + library, x -> x.want(library, copy, 1));
            outside("want, no library nor reader " + library, x -> x.want(library, copy, 0));
            outside("lend, no library " + library, x -> x.lend(library, copy));
            outside("giveBack, no library " + library, x -> x.giveBack(library, copy));
            outside("sendAll, no library " + library, x -> x.sendAll(library));
            outside("crash, no library " + library, x -> x.crash(library));
            outside("restart, no library " + library, x -> x.restart(library));
            outside("of, no library " + library, x -> x.of(library, copy, 0));
            outside("reader, no library " + library, x -> x.reader(library, copy, 0));
            outside("leads, no library " + library, x -> x.leads(library, copy));
        }
    }

    private void noSuchCopy() {
        for (int copy : NO_COPY) {
            outside("copyAt, no copy " + copy, x -> x.copyAt(copy, 0));
            outside("want, no copy " + copy, x -> x.want(0, copy, 1));
            outside("want, no copy nor reader " + copy, x -> x.want(0, copy, 1001));
            outside("lend, no copy " + copy, x -> x.lend(0, copy));
            outside("giveBack, no copy " + copy, x -> x.giveBack(0, copy));
            outside("van, no copy " + copy, x -> x.van(copy));
            outside("of, no copy " + copy, x -> x.of(0, copy, 0));
            outside("reader, no copy " + copy, x -> x.reader(0, copy, 0));
            outside("place, no copy " + copy, x -> x.place(copy));
            outside("chain, no copy " + copy, x -> x.chain(copy, 0));
            outside("served, no copy " + copy, x -> x.served(copy, 0));
            outside("leads, no copy " + copy, x -> x.leads(0, copy));
        }
        int[] noFact = {-1, 5, Integer.MIN_VALUE, Integer.MAX_VALUE};
        for (int what : noFact) {
            outside("of, no what " + what, x -> x.of(0, 0, what));
            outside("of, not placed, no what " + what, x -> x.of(0, 2, what));
        }
    }

    private void noSuchPacket(int pending) {
        int[] none = {-1, pending, Integer.MIN_VALUE, Integer.MAX_VALUE};
        for (int i : none) {
            outside("packet, no packet " + i, x -> x.packet(i, 0));
            outside("deliver, no packet " + i, x -> x.deliver(i));
            outside("drop, no packet " + i, x -> x.drop(i));
            outside("twin, no packet " + i, x -> x.twin(i));
        }
        int[] noPart = {-1, 6, Integer.MIN_VALUE, Integer.MAX_VALUE};
        for (int what : noPart) {
            outside("packet, no what " + what, x -> x.packet(0, what));
        }
    }

    /** The argument is looked at before the state, so that the state may be anything. */
    private void noSuchReader(int library, int copy) {
        int[] none = {0, -1, 1001, Integer.MIN_VALUE, Integer.MAX_VALUE};
        for (int reader : none) {
            badArgument("want in " + library + " for " + copy + " by " + reader, x -> x.want(library, copy, reader));
        }
    }
}
