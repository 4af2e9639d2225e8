/** Promises 7 to 14 and 21: sendAll, pending, packet, deliver, drop, twin, crash, restart, quiet. */
public final class PostTest {
    public static void main(String[] args) {
        sendAllGoesByNumbers();
        sendAllIntoAFullPost();
        sendAllRefusals();
        packetRefusals();
        lettersGoOneByOne();
        aLineHoldsOneLetterOfEachCopyBehindATakenOne();
        directionsCountApart();
        lettersComeOnceMore();
        acknowledgementsThatDoNothing();
        deliverToOneThatIsDown();
        deliverInAFullPost();
        deliverRefusals();
        dropAnswers();
        twinAnswers();
        crashLosesNothing();
        restartAnswers();
        quietAnswers();
        Check.end();
    }

    private static void sendAllGoesByNumbers() {
        LoanArrows x = betweenTwoLines();
        Check.due("sendAll of one without letters", x.sendAll(0), 0);
        Check.due("sendAll(1)", x.sendAll(1), 2);
        Check.due("pending()", x.pending(), 2);
        Check.packet(x, 0, 0, 1, 0, 0, 0, 1);
        Check.packet(x, 1, 0, 1, 2, 0, 1, 1);
        Check.due("sendAll(1) once more", x.sendAll(1), 2);
        Check.due("pending()", x.pending(), 4);
        Check.packet(x, 2, 0, 1, 0, 0, 0, 1);
        Check.packet(x, 3, 0, 1, 2, 0, 1, 1);
    }

    /** Library 1 has letters for 2 and 0, in that order, and for 0 a second; no packet is left. */
    private static LoanArrows betweenTwoLines() {
        LoanArrows x = new LoanArrows(3, 1);
        x.copyAt(0, 0);
        x.copyAt(1, 2);
        x.copyAt(2, 0);
        x.want(1, 1, 1);
        x.want(1, 0, 1);
        x.want(1, 2, 1);
        x.drop(0);
        x.drop(0);
        return x;
    }

    private static void sendAllIntoAFullPost() {
        LoanArrows x = betweenTwoLines();
        for (int i = 0; i < 19; i++) {
            x.sendAll(1);
        }
        x.twin(0);
        Check.due("pending()", x.pending(), 39);
        Check.due("sendAll with room for one", x.sendAll(1), 2);
        Check.due("pending()", x.pending(), 40);
        Check.packet(x, 39, 0, 1, 0, 0, 0, 1);
        Check.due("sendAll without room", x.sendAll(1), 2);
        Check.due("pending()", x.pending(), 40);
    }

    private static void sendAllRefusals() {
        LoanArrows x = new LoanArrows(3, 1);
        Check.outside("sendAll(-1)", () -> x.sendAll(-1));
        Check.outside("sendAll(3)", () -> x.sendAll(3));
        x.crash(1);
        Check.badState("sendAll of one that is down", () -> x.sendAll(1));
        Check.due("sendAll of another", x.sendAll(2), 0);
    }

    private static void packetRefusals() {
        LoanArrows x = new LoanArrows(3, 1);
        Check.outside("packet(0, 0) of an empty post", () -> x.packet(0, 0));
        x.copyAt(0, 0);
        x.want(1, 0, 1);
        Check.outside("packet(-1, 0)", () -> x.packet(-1, 0));
        Check.outside("packet(1, 0)", () -> x.packet(1, 0));
        Check.outside("packet(0, -1)", () -> x.packet(0, -1));
        Check.outside("packet(0, 6)", () -> x.packet(0, 6));
        Check.outside("packet far", () -> x.packet(Integer.MAX_VALUE, 0));
        x.deliver(0);
        Check.packet(x, 0, 1, 0, 1, 0, -1, -1);
    }

    private static void lettersGoOneByOne() {
        LoanArrows x = new LoanArrows(2, 0);
        for (int copy = 0; copy < 3; copy++) {
            x.copyAt(copy, 0);
        }
        x.want(1, 2, 1);
        x.want(1, 0, 2);
        x.want(1, 1, 3);
        Check.due("pending()", x.pending(), 1);
        Check.packet(x, 0, 0, 1, 0, 0, 2, 1);
        Check.due("the first is taken", x.deliver(0), 1);
        Check.due("place(2)", x.place(2), 17);
        Check.due("only its acknowledgement", x.pending(), 1);
        Check.due("it is acknowledged", x.deliver(0), 3);
        Check.due("pending()", x.pending(), 1);
        Check.packet(x, 0, 0, 1, 0, 1, 0, 1);
        x.deliver(0);
        Check.packet(x, 0, 1, 0, 1, 1, -1, -1);
        x.deliver(0);
        Check.packet(x, 0, 0, 1, 0, 2, 1, 1);
        x.deliver(0);
        Check.due("the last is acknowledged", x.deliver(0), 3);
        Check.due("pending()", x.pending(), 0);
        Check.due("place(1)", x.place(1), 17);
    }

    private static void aLineHoldsOneLetterOfEachCopyBehindATakenOne() {
        LoanArrows x = new LoanArrows(2, 0);
        for (int copy = 0; copy < 3; copy++) {
            x.copyAt(copy, 0);
        }
        x.want(1, 0, 1);
        x.deliver(0);
        x.drop(0);
        x.van(0);
        x.want(0, 0, 2);
        x.deliver(0);
        x.drop(0);
        x.lend(1, 0);
        x.giveBack(1, 0);
        x.want(1, 0, 3);
        x.want(1, 2, 3);
        x.want(1, 1, 3);
        Check.due("the line is not sent yet", x.pending(), 0);
        Check.due("sendAll(1)", x.sendAll(1), 1);
        Check.packet(x, 0, 0, 1, 0, 0, 0, 1);
        Check.due("it was taken before", x.deliver(0), 2);
        int[] copies = {0, 2, 1};
        for (int i = 0; i < 3; i++) {
            Check.due("the one before is acknowledged", x.deliver(0), 3);
            Check.due("pending()", x.pending(), 1);
            Check.packet(x, 0, 0, 1, 0, i + 1, copies[i], 1);
            Check.due("the next is taken", x.deliver(0), 1);
        }
        Check.due("the last is acknowledged", x.deliver(0), 3);
        Check.due("the line is empty", x.sendAll(1), 0);
    }

    private static void directionsCountApart() {
        LoanArrows x = new LoanArrows(3, 2);
        x.copyAt(0, 0);
        x.copyAt(1, 1);
        x.want(1, 0, 1);
        x.want(0, 1, 1);
        x.want(2, 0, 1);
        Check.due("pending()", x.pending(), 3);
        Check.packet(x, 0, 0, 1, 0, 0, 0, 1);
        Check.packet(x, 1, 0, 0, 1, 0, 1, 0);
        Check.packet(x, 2, 0, 2, 0, 0, 0, 2);
        Check.due("deliver down", x.deliver(1), 1);
        Check.due("deliver from another", x.deliver(1), 1);
        Check.due("deliver up", x.deliver(0), 1);
    }

    private static void lettersComeOnceMore() {
        LoanArrows x = new LoanArrows(2, 0);
        x.copyAt(0, 0);
        x.copyAt(1, 0);
        x.want(1, 0, 1);
        x.want(1, 1, 1);
        x.twin(0);
        x.twin(0);
        Check.due("it is taken", x.deliver(0), 1);
        x.van(0);
        Check.due("it came once more", x.deliver(0), 2);
        Check.desk(x, 0, 0, 1, -1, 0, 0, 0);
        Check.due("place(0)", x.place(0), 1);
        Check.due("pending()", x.pending(), 3);
        Check.packet(x, 1, 1, 0, 1, 0, -1, -1);
        Check.packet(x, 2, 1, 0, 1, 0, -1, -1);
        Check.due("its acknowledgement", x.deliver(1), 3);
        Check.packet(x, 2, 0, 1, 0, 1, 1, 1);
        Check.due("the next is taken", x.deliver(2), 1);
        Check.due("an old one comes", x.deliver(0), 2);
        Check.packet(x, x.pending() - 1, 1, 0, 1, 0, -1, -1);
    }

    private static void acknowledgementsThatDoNothing() {
        LoanArrows x = new LoanArrows(2, 0);
        x.copyAt(0, 0);
        x.copyAt(1, 0);
        x.want(1, 0, 1);
        x.deliver(0);
        x.twin(0);
        x.twin(0);
        Check.due("the first", x.deliver(0), 3);
        Check.due("one for an empty line", x.deliver(0), 4);
        x.want(1, 1, 1);
        Check.packet(x, 1, 0, 1, 0, 1, 1, 1);
        Check.due("one of an older letter", x.deliver(0), 4);
        Check.due("the line stays", x.sendAll(1), 1);
        Check.due("pending()", x.pending(), 2);
    }

    private static void deliverToOneThatIsDown() {
        LoanArrows x = new LoanArrows(2, 0);
        x.copyAt(0, 0);
        x.want(1, 0, 1);
        x.twin(0);
        x.crash(0);
        Check.due("a letter to one that is down", x.deliver(0), 0);
        Check.due("pending()", x.pending(), 1);
        Check.desk(x, 0, 0, 0, -1, 4, 0, 0);
        x.restart(0);
        x.crash(1);
        Check.due("a letter from one that is down", x.deliver(0), 1);
        Check.due("an acknowledgement to one that is down", x.deliver(0), 0);
        Check.due("pending()", x.pending(), 0);
        Check.due("the letter still waits", x.restart(1), 1);
        Check.due("it came once more", x.deliver(0), 2);
        Check.due("it is acknowledged", x.deliver(0), 3);
    }

    private static void deliverInAFullPost() {
        LoanArrows x = new LoanArrows(3, 1);
        x.copyAt(0, 0);
        x.want(2, 0, 1);
        fill(x);
        Check.due("deliver in a full post", x.deliver(0), 1);
        Check.due("pending()", x.pending(), 40);
        Check.packet(x, 39, 0, 1, 0, 0, 0, 2);
        Check.due("its twin", x.deliver(0), 2);
        Check.due("pending()", x.pending(), 40);
        Check.packet(x, 38, 0, 1, 0, 0, 0, 2);
        Check.packet(x, 39, 1, 1, 2, 0, -1, -1);

        LoanArrows y = new LoanArrows(3, 1);
        y.copyAt(0, 0);
        y.copyAt(1, 0);
        y.want(2, 0, 1);
        fill(y);
        Check.due("want into a full post", y.want(1, 1, 1), 1);
        Check.due("pending()", y.pending(), 40);
        Check.packet(y, 39, 0, 2, 1, 0, 0, 2);
        y.drop(39);
        Check.due("the lost letter waits", y.sendAll(1), 1);
        Check.packet(y, 39, 0, 1, 0, 0, 1, 1);
    }

    private static void fill(LoanArrows x) {
        while (x.pending() < 40) {
            x.twin(0);
        }
    }

    private static void deliverRefusals() {
        LoanArrows x = new LoanArrows(3, 1);
        Check.outside("deliver(0) of an empty post", () -> x.deliver(0));
        x.copyAt(0, 0);
        x.want(1, 0, 1);
        Check.outside("deliver(-1)", () -> x.deliver(-1));
        Check.outside("deliver(1)", () -> x.deliver(1));
        Check.outside("deliver far", () -> x.deliver(Integer.MIN_VALUE));
        Check.due("pending()", x.pending(), 1);
    }

    private static void dropAnswers() {
        LoanArrows x = betweenTwoLines();
        Check.outside("drop(0) of an empty post", () -> x.drop(0));
        x.sendAll(1);
        x.twin(0);
        Check.outside("drop(-1)", () -> x.drop(-1));
        Check.outside("drop(3)", () -> x.drop(3));
        Check.due("drop(1)", x.drop(1), 2);
        Check.packet(x, 0, 0, 1, 0, 0, 0, 1);
        Check.packet(x, 1, 0, 1, 0, 0, 0, 1);
        Check.due("drop(1)", x.drop(1), 1);
        Check.due("drop(0)", x.drop(0), 0);
        Check.due("a dropped letter still waits", x.sendAll(1), 2);
    }

    private static void twinAnswers() {
        LoanArrows x = betweenTwoLines();
        Check.outside("twin(0) of an empty post", () -> x.twin(0));
        x.sendAll(1);
        Check.outside("twin(-1)", () -> x.twin(-1));
        Check.outside("twin(2)", () -> x.twin(2));
        Check.due("twin(1)", x.twin(1), true);
        Check.packet(x, 0, 0, 1, 0, 0, 0, 1);
        Check.packet(x, 2, 0, 1, 2, 0, 1, 1);
        for (int i = 3; i < 40; i++) {
            Check.due("twin(0) with room", x.twin(0), true);
        }
        Check.due("twin(0) without room", x.twin(0), false);
        Check.due("twin(39) without room", x.twin(39), false);
        Check.outside("twin(40)", () -> x.twin(40));
        Check.due("pending()", x.pending(), 40);
        x.drop(5);
        Check.due("twin(38) with room again", x.twin(38), true);
    }

    private static void crashLosesNothing() {
        LoanArrows x = new LoanArrows(2, 0);
        Check.outside("crash(-1)", () -> x.crash(-1));
        Check.outside("crash(2)", () -> x.crash(2));
        x.copyAt(0, 0);
        x.want(1, 0, 1);
        x.want(1, 0, 2);
        x.crash(1);
        Check.badState("crash of one that is down", () -> x.crash(1));
        Check.desk(x, 1, 0, 1, -1, 1, 2, 0);
        Check.due("reader(1, 0, 1)", x.reader(1, 0, 1), 2);
        Check.due("its packet stays", x.pending(), 1);
        Check.due("its line stays", x.quiet(), false);
        x.restart(1);
        x.crash(1);
        Check.badState("crash once more", () -> x.crash(1));
    }

    private static void restartAnswers() {
        LoanArrows x = betweenTwoLines();
        Check.outside("restart(-1)", () -> x.restart(-1));
        Check.outside("restart(3)", () -> x.restart(3));
        Check.badState("restart of one that is up", () -> x.restart(1));
        x.crash(1);
        x.crash(0);
        Check.due("restart(1)", x.restart(1), 2);
        Check.packet(x, 0, 0, 1, 0, 0, 0, 1);
        Check.packet(x, 1, 0, 1, 2, 0, 1, 1);
        Check.badState("restart once more", () -> x.restart(1));
        Check.due("it is up", x.want(1, 0, 2), 1);
        Check.due("restart of one without letters", x.restart(0), 0);
        fill(x);
        x.crash(1);
        Check.due("restart into a full post", x.restart(1), 2);
        Check.due("pending()", x.pending(), 40);
    }

    private static void quietAnswers() {
        LoanArrows x = new LoanArrows(2, 0);
        x.copyAt(2, 0);
        Check.due("quiet when placed", x.quiet(), true);
        x.want(1, 2, 1);
        Check.due("quiet with a letter", x.quiet(), false);
        x.drop(0);
        Check.due("quiet with a lost letter", x.quiet(), false);
        x.sendAll(1);
        x.deliver(0);
        x.van(2);
        Check.due("quiet with a letter not acknowledged", x.quiet(), false);
        x.twin(0);
        x.deliver(0);
        Check.due("pending()", x.pending(), 1);
        Check.due("quiet with an acknowledgement in the post", x.quiet(), true);

        for (int copy = 0; copy < 3; copy++) {
            LoanArrows y = new LoanArrows(2, 0);
            y.copyAt(copy, 0);
            y.want(1, copy, 1);
            y.deliver(0);
            y.deliver(0);
            Check.due("quiet with a van of copy " + copy, y.quiet(), false);
            y.van(copy);
            Check.due("quiet without it", y.quiet(), true);
        }
    }
}
