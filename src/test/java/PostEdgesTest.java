/** The boundary cases of promises 7 to 14 and 21, one test for each sentence that names one. */
public final class PostEdgesTest {
    private static final int NONE = LoanArrows.NONE;

    public static void main(String[] args) {
        sendAllOfNoLine();
        sendAllOfEveryNeighbour();
        sendAllToTheParentAndTheChildren();
        sendAllTakesTheFirstAlone();
        sendAllIntoAPostWithRoomForSome();
        sendAllIntoAFullPost();
        pendingOfAnEmptyPost();
        pendingOfAFullPost();
        packetAtBothEnds();
        packetOfALetter();
        packetOfAnAcknowledgement();
        deliverTheOnlyOne();
        deliverOutOfTheMiddle();
        deliverALetterToOneThatIsDown();
        deliverAnAcknowledgementToOneThatIsDown();
        deliverFromOneThatIsDown();
        deliverALetterOnceMore();
        deliverALetterLongBehind();
        deliverAnAcknowledgementOnceMore();
        deliverAnAcknowledgementOfAnotherLetter();
        deliverAnAcknowledgementOfTheOtherDirection();
        deliverInAFullPostALetterThatEnds();
        deliverInAFullPostALetterThatGoesOn();
        deliverInAFullPostALetterOnceMore();
        deliverInAFullPostAnAcknowledgement();
        deliverInAFullPostToOneThatIsDown();
        dropAtBothEnds();
        dropOutOfAFullPost();
        dropALetterThatIsStillInItsLine();
        twinWithRoomForOne();
        twinWithoutRoom();
        twinGoesToTheEnd();
        twinOfAnAcknowledgement();
        crashOfAll();
        crashWhileItHasAll();
        crashLosesNoNumbers();
        restartOfNoLine();
        restartOfEveryLine();
        restartIntoAFullPost();
        restartIntoAPostWithRoomForSome();
        restartOfOneThatIsUp();
        quietAtFirst();
        quietWithLettersThatAreOutOfTheirLines();
        quietWithALetterInEachLine();
        quietWithEachVan();
        numbersGoOnFromZero();
        aLetterInsideALineIsNotPut();
        Check.end();
    }

    /** A star round 0, where 0 waits for copies 0 .. 2 from the last libraries; no packet is left. */
    private static LoanArrows threeLinesOfZero() {
        LoanArrows x = new LoanArrows(12, 2);
        int[] homes = {11, 1, 6};
        for (int copy = 0; copy < 3; copy++) {
            x.copyAt(copy, homes[copy]);
            x.want(0, copy, 1);
            x.drop(0);
        }
        return x;
    }

    private static void checkThreeLines(LoanArrows x, int start, int count) {
        int[] homes = {1, 6, 11};
        int[] copies = {1, 2, 0};
        for (int i = 0; i < count; i++) {
            Check.packet(x, start + i, 0, 0, homes[i], 0, copies[i], 0);
        }
    }

    private static void fillPost(LoanArrows x) {
        for (int i = x.pending(); i < 40; i++) {
            x.twin(0);
        }
    }

    private static LoanArrows oneLetter() {
        LoanArrows x = new LoanArrows(2, 0);
        x.copyAt(0, 0);
        x.copyAt(1, 0);
        x.want(1, 0, 1);
        return x;
    }

    /** "how many lines that were" */
    private static void sendAllOfNoLine() {
        LoanArrows x = oneLetter();
        Check.due("sendAll of one without letters", x.sendAll(0), 0);
        x.deliver(0);
        x.deliver(0);
        Check.due("sendAll of one whose letter is acknowledged", x.sendAll(1), 0);
        Check.due("pending()", x.pending(), 0);
    }

    /** "by neighbours' numbers" */
    private static void sendAllOfEveryNeighbour() {
        LoanArrows x = threeLinesOfZero();
        Check.due("sendAll(0)", x.sendAll(0), 3);
        Check.due("pending()", x.pending(), 3);
        checkThreeLines(x, 0, 3);
        for (int library = 1; library < 12; library++) {
            Check.due("sendAll(" + library + ")", x.sendAll(library), 0);
        }
    }

    private static void sendAllToTheParentAndTheChildren() {
        LoanArrows x = new LoanArrows(12, 0);
        int[] homes = {4, 0, 3};
        for (int copy = 2; copy >= 0; copy--) {
            x.copyAt(copy, homes[copy]);
            x.want(1, copy, 1);
            x.drop(0);
        }
        Check.due("sendAll(1)", x.sendAll(1), 3);
        Check.packet(x, 0, 0, 1, 0, 0, 1, 1);
        Check.packet(x, 1, 0, 1, 3, 0, 2, 1);
        Check.packet(x, 2, 0, 1, 4, 0, 0, 1);
    }

    /** "The first letter of each line" */
    private static void sendAllTakesTheFirstAlone() {
        LoanArrows x = new LoanArrows(2, 0);
        for (int copy = 0; copy < 3; copy++) {
            x.copyAt(copy, 0);
            x.want(1, copy, 1);
        }
        for (int i = 1; i <= 3; i++) {
            Check.due("sendAll(1)", x.sendAll(1), 1);
            Check.due("pending()", x.pending(), i + 1);
            Check.packet(x, i, 0, 1, 0, 0, 0, 1);
        }
    }

    /** "(also if the post was full)" */
    private static void sendAllIntoAPostWithRoomForSome() {
        for (int room = 1; room <= 3; room++) {
            LoanArrows x = threeLinesOfZero();
            x.sendAll(0);
            for (int i = 3; i < 40 - room; i++) {
                x.twin(0);
            }
            Check.due("sendAll with room for " + room, x.sendAll(0), 3);
            Check.due("pending()", x.pending(), 40);
            checkThreeLines(x, 40 - room, room);
        }
    }

    private static void sendAllIntoAFullPost() {
        LoanArrows x = threeLinesOfZero();
        x.sendAll(0);
        fillPost(x);
        Check.due("sendAll of three lines", x.sendAll(0), 3);
        Check.due("pending()", x.pending(), 40);
        checkThreeLines(x, 0, 3);
        Check.packet(x, 39, 0, 0, 1, 0, 1, 0);

        LoanArrows y = oneLetter();
        fillPost(y);
        Check.due("sendAll of one line", y.sendAll(1), 1);
        Check.due("sendAll of no line", y.sendAll(0), 0);
        Check.due("pending()", y.pending(), 40);
    }

    /** "How many packets are in the post." */
    private static void pendingOfAnEmptyPost() {
        LoanArrows x = oneLetter();
        Check.due("pending() of one", x.pending(), 1);
        x.drop(0);
        Check.due("pending() of none", x.pending(), 0);
    }

    /** "THE POST is a row of at most 40 PACKETS" */
    private static void pendingOfAFullPost() {
        LoanArrows x = oneLetter();
        for (int count = 1; count < 40; count++) {
            Check.due("pending()", x.pending(), count);
            x.twin(count - 1);
        }
        Check.due("pending()", x.pending(), 40);
        x.twin(0);
        x.sendAll(1);
        Check.due("pending() never more", x.pending(), 40);
    }

    /** "IndexOutOfBoundsException when there is no such packet or what" */
    private static void packetAtBothEnds() {
        LoanArrows x = oneLetter();
        fillPost(x);
        Check.packet(x, 0, 0, 1, 0, 0, 0, 1);
        Check.packet(x, 39, 0, 1, 0, 0, 0, 1);
        Check.outside("packet(40, 0)", () -> x.packet(40, 0));
        Check.outside("packet(-1, 0)", () -> x.packet(-1, 0));
        Check.outside("packet(39, 6)", () -> x.packet(39, 6));
        Check.outside("packet(38, 6)", () -> x.packet(38, 6));
        Check.outside("packet(1, -1)", () -> x.packet(1, -1));
        x.drop(39);
        Check.outside("packet(39, 0) when there are 39", () -> x.packet(39, 0));
    }

    private static void packetOfALetter() {
        LoanArrows x = new LoanArrows(12, 1);
        x.copyAt(2, 0);
        x.want(11, 2, 1000);
        Check.packet(x, 0, 0, 11, 10, 0, 2, 11);
        x.deliver(0);
        Check.packet(x, 0, 0, 10, 9, 0, 2, 11);
    }

    /** "for a letter its copy (4) and asker (5), NONE for an acknowledgement" */
    private static void packetOfAnAcknowledgement() {
        LoanArrows x = new LoanArrows(12, 1);
        x.copyAt(2, 10);
        x.want(11, 2, 1000);
        x.deliver(0);
        Check.packet(x, 0, 1, 10, 11, 0, NONE, NONE);
        Check.outside("packet(0, 6) of an acknowledgement", () -> x.packet(0, 6));
    }

    /** "and is in the post no more" */
    private static void deliverTheOnlyOne() {
        LoanArrows x = oneLetter();
        Check.due("deliver the letter", x.deliver(0), 1);
        Check.due("only the acknowledgement", x.pending(), 1);
        Check.due("deliver the acknowledgement", x.deliver(0), 3);
        Check.due("nothing", x.pending(), 0);
        Check.outside("deliver(0) of an empty post", () -> x.deliver(0));
    }

    private static void deliverOutOfTheMiddle() {
        LoanArrows x = threeLinesOfZero();
        x.sendAll(0);
        Check.due("deliver(1)", x.deliver(1), 1);
        Check.due("pending()", x.pending(), 3);
        Check.packet(x, 0, 0, 0, 1, 0, 1, 0);
        Check.packet(x, 1, 0, 0, 11, 0, 0, 0);
        Check.packet(x, 2, 1, 6, 0, 0, NONE, NONE);
        Check.due("the last", x.deliver(2), 3);
        Check.due("pending()", x.pending(), 2);
    }

    /** "When that is down, it is lost": 0 */
    private static void deliverALetterToOneThatIsDown() {
        LoanArrows x = oneLetter();
        x.crash(0);
        Check.due("deliver", x.deliver(0), 0);
        Check.due("pending()", x.pending(), 0);
        Check.desk(x, 0, 0, 0, NONE, 4, 0, 0);
        x.restart(0);
        Check.due("its letter waits", x.sendAll(1), 1);
        Check.due("it was not counted as taken", x.deliver(0), 1);
    }

    private static void deliverAnAcknowledgementToOneThatIsDown() {
        LoanArrows x = oneLetter();
        x.deliver(0);
        x.crash(1);
        Check.due("deliver", x.deliver(0), 0);
        Check.due("pending()", x.pending(), 0);
        Check.due("quiet()", x.quiet(), false);
        Check.due("its letter waits", x.restart(1), 1);
        Check.due("it came once more", x.deliver(0), 2);
        Check.due("it is acknowledged", x.deliver(0), 3);
    }

    private static void deliverFromOneThatIsDown() {
        LoanArrows x = oneLetter();
        x.crash(1);
        Check.due("its letter is taken", x.deliver(0), 1);
        x.restart(1);
        x.crash(0);
        Check.due("its acknowledgement is taken", x.deliver(0), 3);
    }

    /** "2 a letter came once more" and "it is acknowledged all the same" */
    private static void deliverALetterOnceMore() {
        LoanArrows x = oneLetter();
        x.twin(0);
        x.deliver(0);
        Check.due("deliver its twin", x.deliver(0), 2);
        Check.due("both are acknowledged", x.pending(), 2);
        Check.packet(x, 0, 1, 0, 1, 0, NONE, NONE);
        Check.packet(x, 1, 1, 0, 1, 0, NONE, NONE);
        Check.due("place(0)", x.place(0), 17);
        Check.desk(x, 0, 0, 1, NONE, 0, 0, 0);
    }

    /** "(or is not the next one: it is acknowledged all the same)": with its own number, not the awaited one */
    private static void deliverALetterLongBehind() {
        LoanArrows x = oneLetter();
        x.twin(0);
        x.deliver(1);
        x.deliver(1);
        x.want(1, 1, 1);
        x.deliver(1);
        x.deliver(1);
        Check.due("the old one alone is left", x.pending(), 1);
        Check.due("deliver", x.deliver(0), 2);
        Check.packet(x, 0, 1, 0, 1, 0, NONE, NONE);
        Check.due("its acknowledgement does nothing", x.deliver(0), 4);
        Check.due("pending()", x.pending(), 0);
    }

    /** "another one does nothing": 4 */
    private static void deliverAnAcknowledgementOnceMore() {
        LoanArrows x = oneLetter();
        x.deliver(0);
        x.twin(0);
        Check.due("deliver", x.deliver(0), 3);
        Check.due("deliver its twin to an empty line", x.deliver(0), 4);
        Check.due("pending()", x.pending(), 0);
    }

    private static void deliverAnAcknowledgementOfAnotherLetter() {
        LoanArrows x = oneLetter();
        x.want(1, 1, 1);
        x.deliver(0);
        x.twin(0);
        Check.due("deliver", x.deliver(0), 3);
        Check.due("deliver its twin before the next is taken", x.deliver(0), 4);
        Check.packet(x, 0, 0, 1, 0, 1, 1, 1);
        Check.due("the next still waits", x.sendAll(1), 1);
        Check.packet(x, 1, 0, 1, 0, 1, 1, 1);
    }

    private static void deliverAnAcknowledgementOfTheOtherDirection() {
        LoanArrows x = new LoanArrows(2, 0);
        x.copyAt(0, 0);
        x.copyAt(1, 1);
        x.want(1, 0, 1);
        x.want(0, 1, 1);
        x.deliver(0);
        Check.packet(x, 1, 1, 0, 1, 0, NONE, NONE);
        Check.due("deliver", x.deliver(1), 3);
        Check.due("the line of 1 is empty", x.sendAll(1), 0);
        Check.due("the line of 0 is not", x.sendAll(0), 1);
    }

    private static void deliverInAFullPostALetterThatEnds() {
        LoanArrows x = oneLetter();
        fillPost(x);
        Check.due("deliver", x.deliver(20), 1);
        Check.due("pending()", x.pending(), 40);
        Check.packet(x, 39, 1, 0, 1, 0, NONE, NONE);
    }

    /** "behind that, in either case, an acknowledgement": the letter that goes on has the one free place */
    private static void deliverInAFullPostALetterThatGoesOn() {
        LoanArrows x = new LoanArrows(3, 1);
        x.copyAt(0, 0);
        x.want(2, 0, 1);
        fillPost(x);
        Check.due("deliver", x.deliver(39), 1);
        Check.due("pending()", x.pending(), 40);
        Check.packet(x, 38, 0, 2, 1, 0, 0, 2);
        Check.packet(x, 39, 0, 1, 0, 0, 0, 2);
        x.drop(0);
        x.drop(0);
        Check.due("deliver", x.deliver(37), 1);
        Check.due("an acknowledgement has room again", x.pending(), 38);
        Check.packet(x, 37, 1, 0, 1, 0, NONE, NONE);
    }

    private static void deliverInAFullPostALetterOnceMore() {
        LoanArrows x = oneLetter();
        fillPost(x);
        x.deliver(0);
        Check.due("deliver its twin", x.deliver(0), 2);
        Check.due("pending()", x.pending(), 40);
        Check.packet(x, 38, 1, 0, 1, 0, NONE, NONE);
        Check.packet(x, 39, 1, 0, 1, 0, NONE, NONE);
    }

    /** "when it comes to be the first (... the one before it is acknowledged)" */
    private static void deliverInAFullPostAnAcknowledgement() {
        LoanArrows x = oneLetter();
        x.want(1, 1, 1);
        x.deliver(0);
        fillPost(x);
        Check.due("deliver", x.deliver(0), 3);
        Check.due("pending()", x.pending(), 40);
        Check.packet(x, 39, 0, 1, 0, 1, 1, 1);
        Check.due("deliver another", x.deliver(0), 4);
        Check.due("pending()", x.pending(), 39);
    }

    private static void deliverInAFullPostToOneThatIsDown() {
        LoanArrows x = oneLetter();
        fillPost(x);
        x.crash(0);
        Check.due("deliver", x.deliver(39), 0);
        Check.due("pending()", x.pending(), 39);
    }

    /** "how many are left" */
    private static void dropAtBothEnds() {
        LoanArrows x = threeLinesOfZero();
        x.sendAll(0);
        Check.due("drop the last", x.drop(2), 2);
        Check.packet(x, 0, 0, 0, 1, 0, 1, 0);
        Check.packet(x, 1, 0, 0, 6, 0, 2, 0);
        Check.due("drop the first", x.drop(0), 1);
        Check.packet(x, 0, 0, 0, 6, 0, 2, 0);
        Check.due("drop the only one", x.drop(0), 0);
        Check.outside("drop(0) of an empty post", () -> x.drop(0));
    }

    private static void dropOutOfAFullPost() {
        LoanArrows x = oneLetter();
        fillPost(x);
        Check.outside("drop(40)", () -> x.drop(40));
        Check.due("drop(39)", x.drop(39), 39);
        Check.outside("drop(39)", () -> x.drop(39));
        for (int left = 38; left >= 0; left--) {
            Check.due("drop(0)", x.drop(0), left);
        }
    }

    private static void dropALetterThatIsStillInItsLine() {
        LoanArrows x = oneLetter();
        x.drop(0);
        Check.due("quiet()", x.quiet(), false);
        Check.due("sendAll(1)", x.sendAll(1), 1);
        Check.packet(x, 0, 0, 1, 0, 0, 0, 1);
    }

    /** "whether there was room" */
    private static void twinWithRoomForOne() {
        LoanArrows x = oneLetter();
        fillPost(x);
        x.drop(0);
        Check.due("twin with room for one", x.twin(38), true);
        Check.due("twin with no room", x.twin(38), false);
        Check.due("pending()", x.pending(), 40);
    }

    private static void twinWithoutRoom() {
        LoanArrows x = threeLinesOfZero();
        x.sendAll(0);
        fillPost(x);
        for (int i = 0; i < 40; i += 13) {
            Check.due("twin(" + i + ")", x.twin(i), false);
        }
        Check.due("pending()", x.pending(), 40);
        checkThreeLines(x, 0, 3);
        Check.packet(x, 39, 0, 0, 1, 0, 1, 0);
    }

    /** "is put into the post once more" */
    private static void twinGoesToTheEnd() {
        LoanArrows x = threeLinesOfZero();
        x.sendAll(0);
        Check.due("twin the middle one", x.twin(1), true);
        checkThreeLines(x, 0, 3);
        Check.packet(x, 3, 0, 0, 6, 0, 2, 0);
        Check.due("twin the last one", x.twin(3), true);
        Check.packet(x, 4, 0, 0, 6, 0, 2, 0);
        Check.outside("twin(5)", () -> x.twin(5));
    }

    private static void twinOfAnAcknowledgement() {
        LoanArrows x = oneLetter();
        x.deliver(0);
        Check.due("twin", x.twin(0), true);
        Check.packet(x, 1, 1, 0, 1, 0, NONE, NONE);
    }

    /** "A library goes down ... IllegalStateException when it is down" */
    private static void crashOfAll() {
        LoanArrows x = new LoanArrows(12, 0);
        for (int library = 0; library < 12; library++) {
            int which = library;
            x.crash(library);
            Check.badState("crash once more", () -> x.crash(which));
        }
        for (int library = 0; library < 12; library++) {
            Check.due("restart", x.restart(library), 0);
        }
    }

    /** "nothing that it knows is lost" */
    private static void crashWhileItHasAll() {
        for (int library = 0; library < 3; library++) {
            LoanArrows x = manyThingsKnown();
            LoanArrows y = manyThingsKnown();
            x.crash(library);
            Check.due("behind the crash of " + library, Look.at(x, 3), Look.at(y, 3));
            Check.due("restart as sendAll", x.restart(library), y.sendAll(library));
            Check.due("behind its restart", Look.through(x, 3), Look.through(y, 3));
        }
    }

    /** Copy 0 is lent, copy 1 held with a follower, copy 2 in a van; letters and acknowledgements under way. */
    private static LoanArrows manyThingsKnown() {
        LoanArrows x = new LoanArrows(3, 1);
        x.copyAt(0, 1);
        x.copyAt(1, 1);
        x.copyAt(2, 0);
        x.want(1, 0, 3);
        x.want(1, 0, 4);
        x.lend(1, 0);
        x.want(1, 1, 5);
        x.want(2, 1, 6);
        x.deliver(0);
        x.want(1, 2, 7);
        x.deliver(1);
        x.want(0, 0, 8);
        return x;
    }

    private static void crashLosesNoNumbers() {
        LoanArrows x = oneLetter();
        x.twin(0);
        x.deliver(0);
        x.crash(0);
        x.restart(0);
        Check.due("what was taken stays taken", x.deliver(0), 2);
        x.deliver(0);
        x.crash(1);
        x.restart(1);
        x.want(1, 1, 1);
        Check.packet(x, 1, 0, 1, 0, 1, 1, 1);
    }

    /** "sends as sendAll does: how many packets" */
    private static void restartOfNoLine() {
        LoanArrows x = oneLetter();
        x.crash(0);
        Check.due("restart(0)", x.restart(0), 0);
        Check.due("pending()", x.pending(), 1);
    }

    private static void restartOfEveryLine() {
        LoanArrows x = threeLinesOfZero();
        x.crash(0);
        Check.due("restart(0)", x.restart(0), 3);
        Check.due("pending()", x.pending(), 3);
        checkThreeLines(x, 0, 3);
    }

    /** Read as sendAll counts: also what the full post lost. */
    private static void restartIntoAFullPost() {
        LoanArrows x = threeLinesOfZero();
        x.sendAll(0);
        fillPost(x);
        x.crash(0);
        Check.due("restart(0)", x.restart(0), 3);
        Check.due("pending()", x.pending(), 40);
        Check.due("it is up", x.sendAll(0), 3);
    }

    private static void restartIntoAPostWithRoomForSome() {
        LoanArrows x = threeLinesOfZero();
        x.sendAll(0);
        fillPost(x);
        x.drop(39);
        x.drop(38);
        x.crash(0);
        Check.due("restart(0)", x.restart(0), 3);
        Check.due("pending()", x.pending(), 40);
        checkThreeLines(x, 38, 2);
    }

    /** "IllegalStateException when it is up" */
    private static void restartOfOneThatIsUp() {
        LoanArrows x = oneLetter();
        Check.badState("restart at first", () -> x.restart(1));
        Check.due("pending()", x.pending(), 1);
        x.crash(1);
        x.restart(1);
        Check.badState("restart once more", () -> x.restart(1));
        Check.due("pending()", x.pending(), 2);
    }

    /** "no letter waits in any line and no copy is in a van" */
    private static void quietAtFirst() {
        LoanArrows x = new LoanArrows(2, 0);
        Check.due("quiet() at first", x.quiet(), true);
        x.copyAt(0, 0);
        x.want(0, 0, 1);
        x.lend(0, 0);
        Check.due("quiet() when lent", x.quiet(), true);
        x.crash(0);
        Check.due("quiet() when down", x.quiet(), true);
    }

    /** "(acknowledgements in the post do not matter)": nor do twins of letters that wait no more */
    private static void quietWithLettersThatAreOutOfTheirLines() {
        LoanArrows x = oneLetter();
        x.twin(0);
        x.deliver(0);
        x.twin(1);
        x.deliver(1);
        Check.due("quiet() in a van", x.quiet(), false);
        x.van(0);
        Check.due("a letter and an acknowledgement", x.pending(), 2);
        Check.due("packet(0, 0)", x.packet(0, 0), 0);
        Check.due("packet(1, 0)", x.packet(1, 0), 1);
        Check.due("quiet()", x.quiet(), true);
    }

    private static void quietWithALetterInEachLine() {
        for (int shape = 0; shape <= 2; shape++) {
            for (int library = 1; library < 12; library++) {
                checkQuietOverLink(shape, library);
            }
        }
    }

    private static void checkQuietOverLink(int shape, int library) {
        LoanArrows up = new LoanArrows(12, shape);
        up.copyAt(0, 0);
        up.want(library, 0, 1);
        up.drop(0);
        Check.due("quiet() with a letter up", up.quiet(), false);

        LoanArrows down = new LoanArrows(12, shape);
        down.copyAt(0, library);
        down.want(parentOf(shape, library), 0, 1);
        down.drop(0);
        Check.due("quiet() with a letter down", down.quiet(), false);
    }

    private static int parentOf(int shape, int library) {
        return shape == 0 ? (library - 1) / 2 : shape == 1 ? library - 1 : 0;
    }

    private static void quietWithEachVan() {
        for (int copy = 0; copy < 3; copy++) {
            LoanArrows x = new LoanArrows(2, 0);
            for (int other = 0; other < 3; other++) {
                x.copyAt(other, 1);
            }
            x.want(0, copy, 1);
            x.deliver(0);
            x.deliver(0);
            Check.due("the van alone", x.pending(), 0);
            Check.due("quiet() with a van of " + copy, x.quiet(), false);
            x.van(copy);
            Check.due("quiet() without it", x.quiet(), true);
        }
    }

    /** "each gets the next NUMBER of that direction, from 0 on" */
    private static void numbersGoOnFromZero() {
        LoanArrows x = new LoanArrows(2, 0);
        x.copyAt(0, 0);
        for (int round = 0; round < 30; round++) {
            int asker = 1 - round % 2;
            x.want(asker, 0, 1);
            Check.packet(x, 0, 0, asker, 1 - asker, round / 2, 0, asker);
            Check.due("taken", x.deliver(0), 1);
            Check.packet(x, 0, 1, 1 - asker, asker, round / 2);
            Check.due("acknowledged", x.deliver(0), 3);
            x.van(0);
            x.lend(asker, 0);
            x.giveBack(asker, 0);
        }
    }

    /** "and waits in a line until all before it are ACKNOWLEDGED" */
    private static void aLetterInsideALineIsNotPut() {
        LoanArrows x = new LoanArrows(2, 0);
        for (int copy = 0; copy < 3; copy++) {
            x.copyAt(copy, 0);
            x.want(1, copy, 1);
            Check.due("pending()", x.pending(), 1);
        }
        x.deliver(0);
        Check.due("taking alone is not enough", x.pending(), 1);
        Check.due("packet(0, 0)", x.packet(0, 0), 1);
        x.drop(0);
        Check.due("sendAll(1)", x.sendAll(1), 1);
        Check.due("the first once more", x.packet(0, 3), 0);
        x.deliver(0);
        x.deliver(0);
        Check.due("the second now", x.packet(0, 3), 1);
        Check.due("pending()", x.pending(), 1);
    }
}
