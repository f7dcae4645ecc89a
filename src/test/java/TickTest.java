/** A TICK, which is promise 5, and what a change of the session ends. */
public final class TickTest {
    public static void main(String[] args) {
        requestsAreDropped();
        eachFrameOfARequestCounts();
        otherFramesDoNotCount();
        ticksBeforeARequest();
        answersAreDropped();
        answersThatWaitAnew();
        otherFramesDoNotMakeItWaitAnew();
        ticksBeforeAnAnswer();
        sessionsEnd();
        requestsKeepASessionOn();
        otherFramesDoNotKeepItOn();
        wantedBytesKeepItOn();
        waitingAnswersKeepItOn();
        sessionOneStays();
        theDelayGrowsShorter();
        theDelayInSessionOne();
        requestsGoBeforeSessions();
        answersGoBeforeSessions();
        changesLock();
        changesCloseSeeds();
        changesEndDownloads();
        changesLeaveTheRest();
        ticksLeaveTheRest();
        Bench.end();
    }

    private static void requestsAreDropped() {
        Bench.says("if bytes are wanted, and this is the fourth tick since the latest frame of the request,"
                + " what was received is dropped;");
        Bench b = new Bench();
        b.frame(16, 34, 200);
        b.ticks(3);
        Bench.due("bytes wanted after 3 ticks", b.unit.state(6), 28);
        b.ticks(1);
        Bench.due("bytes wanted after 4 ticks", b.unit.state(6), 0);
        b.empty();
        Bench.due("the next frame", b.frame(33), 0);
        b.frame(16, 14, 200);
        b.frame(33);
        b.ticks(3);
        Bench.due("a single byte is wanted", b.unit.state(6), 1);
        b.ticks(1);
        Bench.due("a single byte was wanted", b.unit.state(6), 0);
    }

    private static void eachFrameOfARequestCounts() {
        Bench.says("if bytes are wanted, and this is the fourth tick since the latest frame of the request,"
                + " what was received is dropped;");
        Bench b = new Bench();
        b.frame(16, 34, 200);
        for (int number = 1; number <= 3; number++) {
            b.ticks(3);
            b.frame(32 + number);
            Bench.due("bytes wanted after frame " + number, b.unit.state(6), 28 - 7 * number);
        }
        b.ticks(3);
        b.empty();
        Bench.due("the last frame", b.frame(36), 1);
        b.frame(16, 8, 200);
        b.ticks(3);
        b.frame(16, 9, 200);
        b.ticks(3);
        Bench.due("bytes wanted by a new first frame", b.unit.state(6), 3);
        b.ticks(1);
        Bench.due("bytes wanted, a tick later", b.unit.state(6), 0);
    }

    private static void otherFramesDoNotCount() {
        Bench.says("if bytes are wanted, and this is the fourth tick since the latest frame of the request,"
                + " what was received is dropped;");
        Bench b = new Bench();
        b.frame(16, 34, 200);
        b.ticks(3);
        b.frame(0);
        b.frame(16, 7, 200);
        b.frame(16, 35, 200);
        b.frame(48, 0);
        b.frame(49);
        b.frame(50);
        b.frame(200);
        Bench.due("bytes wanted", b.unit.state(6), 28);
        b.ticks(1);
        Bench.due("bytes wanted after the fourth tick", b.unit.state(6), 0);
    }

    private static void ticksBeforeARequest() {
        Bench.says("if bytes are wanted, and this is the fourth tick since the latest frame of the request,"
                + " what was received is dropped;");
        Bench b = new Bench();
        b.ticks(3);
        b.frame(16, 8, 200);
        b.ticks(3);
        Bench.due("bytes wanted", b.unit.state(6), 2);
        b.ticks(4);
        b.frame(16, 8, 200);
        b.ticks(3);
        Bench.due("bytes wanted by another one", b.unit.state(6), 2);
        b.frame(33);
        b.ticks(2);
        b.frame(16, 8, 200);
        b.ticks(3);
        Bench.due("bytes wanted by a third one", b.unit.state(6), 2);
    }

    private static void answersAreDropped() {
        Bench.says("if an answer waits, and this is the fourth tick since it began to wait (anew), it is dropped;");
        Bench b = new Bench();
        b.frame(2, 34, 2);
        b.ticks(3);
        Bench.due("bytes to be sent after 3 ticks", b.unit.state(7), 4);
        b.ticks(1);
        Bench.due("bytes to be sent after 4 ticks", b.unit.state(7), 0);
        Bench.due("48 0 then", b.frame(48, 0), 1);
        Bench.due("a request then", b.frame(2, 62, 0), 2);
    }

    private static void answersThatWaitAnew() {
        Bench.says("if an answer waits, and this is the fourth tick since it began to wait (anew), it is dropped;");
        Bench b = new Bench();
        b.frame(2, 34, 2);
        for (int round = 0; round < 4; round++) {
            b.ticks(3);
            b.frame(49);
        }
        b.ticks(3);
        Bench.due("bytes to be sent, 3 ticks after 49", b.unit.state(7), 4);
        b.ticks(1);
        Bench.due("bytes to be sent, 4 ticks after 49", b.unit.state(7), 0);
    }

    private static void otherFramesDoNotMakeItWaitAnew() {
        Bench.says("if an answer waits, and this is the fourth tick since it began to wait (anew), it is dropped;");
        Bench b = new Bench();
        b.frame(2, 34, 2);
        b.ticks(3);
        b.frame(2, 62, 0);
        b.frame(2, 34, 2);
        b.frame(16, 8, 200);
        b.frame(33);
        b.frame(0);
        Bench.due("bytes to be sent", b.unit.state(7), 4);
        b.ticks(1);
        Bench.due("bytes to be sent after the fourth tick", b.unit.state(7), 0);
    }

    private static void ticksBeforeAnAnswer() {
        Bench.says("if an answer waits, and this is the fourth tick since it began to wait (anew), it is dropped;");
        Bench b = new Bench();
        b.ticks(3);
        b.frame(2, 34, 2);
        b.ticks(3);
        Bench.due("bytes to be sent", b.unit.state(7), 4);
        b.frame(48, 0);
        b.ticks(2);
        b.frame(2, 34, 2);
        b.ticks(3);
        Bench.due("bytes to be sent of another one", b.unit.state(7), 4);
        b.ticks(1);
        b.frame(2, 34, 2);
        b.ticks(3);
        Bench.due("bytes to be sent of a third one", b.unit.state(7), 4);
    }

    private static void sessionsEnd() {
        Bench.says("if the session is 2, and ten ticks or more (this one too) came since the latest request"
                + " was complete, and no bytes are wanted and no answer waits: the session CHANGES to 1;");
        Bench b = Bench.inSessionTwo();
        b.ticks(9);
        Bench.due("the session after 9 ticks", b.unit.state(1), 2);
        b.ticks(1);
        Bench.due("the session after 10 ticks", b.unit.state(1), 1);
        b.ticks(20);
        b.askDue("80 2", 16, 2);
        b.ticks(9);
        Bench.due("the session, 9 ticks after a later request", b.unit.state(1), 2);
        b.ticks(1);
        Bench.due("the session, 10 ticks after a later request", b.unit.state(1), 1);
    }

    private static void requestsKeepASessionOn() {
        Bench.says("if the session is 2, and ten ticks or more (this one too) came since the latest request"
                + " was complete, and no bytes are wanted and no answer waits: the session CHANGES to 1;");
        int[][] requests = {{62, 0}, {200}, {62}, {39, 9}, {52, 1, 1}, {34, 1}, {54, 1, 2, 3, 4, 5, 6, 7, 8, 9}};
        for (int[] request : requests) {
            Bench b = Bench.inSessionTwo();
            b.ticks(9);
            b.ask(request);
            b.ticks(9);
            Bench.due("the session, 9 ticks after " + Bench.text(request), b.unit.state(1), 2);
            b.ticks(1);
            Bench.due("the session, 10 ticks after " + Bench.text(request), b.unit.state(1), 1);
        }
    }

    private static void otherFramesDoNotKeepItOn() {
        Bench.says("if the session is 2, and ten ticks or more (this one too) came since the latest request"
                + " was complete, and no bytes are wanted and no answer waits: the session CHANGES to 1;");
        Bench b = Bench.inSessionTwo();
        b.ticks(9);
        b.frame(0);
        b.frame(48, 0);
        b.frame(33, 62, 0);
        b.frame(16, 34, 62);
        b.frame(47);
        b.ticks(1);
        Bench.due("the session after 10 ticks", b.unit.state(1), 1);
    }

    private static void wantedBytesKeepItOn() {
        Bench.says("if the session is 2, and ten ticks or more (this one too) came since the latest request"
                + " was complete, and no bytes are wanted and no answer waits: the session CHANGES to 1;");
        Bench b = Bench.inSessionTwo();
        b.ticks(9);
        b.frame(16, 14, 62);
        b.ticks(2);
        b.frame(33);
        b.ticks(2);
        Bench.due("the session after 13 ticks, a byte being wanted", b.unit.state(1), 2);
        b.frame(40);
        Bench.due("the session after another number", b.unit.state(1), 2);
        b.ticks(1);
        Bench.due("the session, a tick later", b.unit.state(1), 1);
        b.askDue("80 2", 16, 2);
        b.ticks(9);
        b.frame(16, 8, 62);
        b.ticks(3);
        b.frame(33);
        b.ticks(9);
        Bench.due("the session, 9 ticks after the request was complete", b.unit.state(1), 2);
        b.ticks(1);
        Bench.due("the session, 10 ticks after the request was complete", b.unit.state(1), 1);
    }

    private static void waitingAnswersKeepItOn() {
        Bench.says("if the session is 2, and ten ticks or more (this one too) came since the latest request"
                + " was complete, and no bytes are wanted and no answer waits: the session CHANGES to 1;");
        Bench b = Bench.inSessionTwo();
        b.frame(2, 34, 2);
        for (int round = 0; round < 4; round++) {
            b.ticks(3);
            b.frame(49);
        }
        Bench.due("the session after 12 ticks, an answer waiting", b.unit.state(1), 2);
        b.frame(48, 0);
        Bench.due("the session when the answer was sent", b.unit.state(1), 2);
        b.ticks(1);
        Bench.due("the session, a tick later", b.unit.state(1), 1);
    }

    private static void sessionOneStays() {
        Bench.says("if the session is 2, and ten ticks or more (this one too) came since the latest request"
                + " was complete, and no bytes are wanted and no answer waits: the session CHANGES to 1;");
        Bench b = new Bench();
        b.ticks(9);
        b.askDue("80 1", 16, 1);
        b.ticks(30);
        b.statesDue("after many ticks in session 1", Bench.BOOTED);
    }

    private static void theDelayGrowsShorter() {
        Bench.says("the DELAY, if it isn't 0, is 1 less.");
        Bench b = Bench.inSessionTwo();
        b.wrongKeyDue("127 39 53");
        b.ticks(3);
        Bench.due("the delay before there is one", b.unit.state(8), 0);
        b.wrongKeyDue("127 39 54");
        for (int delay = 8; delay > 0; delay--) {
            Bench.due("the delay", b.unit.state(8), delay);
            b.ticks(1);
        }
        Bench.due("the delay after 8 ticks", b.unit.state(8), 0);
        b.ticks(1);
        Bench.due("the delay after 9 ticks", b.unit.state(8), 0);
    }

    private static void theDelayInSessionOne() {
        Bench.says("the DELAY, if it isn't 0, is 1 less.");
        Bench b = Bench.inSessionTwo();
        b.wrongKeyDue("127 39 53");
        b.wrongKeyDue("127 39 54");
        b.askDue("80 1", 16, 1);
        b.ticks(7);
        Bench.due("the delay after 7 ticks", b.unit.state(8), 1);
        b.askDue("80 2", 16, 2);
        b.askDue("127 39 55", 39, 1);
        b.ticks(1);
        Bench.due("the delay after 8 ticks", b.unit.state(8), 0);
    }

    private static void requestsGoBeforeSessions() {
        Bench.says("A TICK, in this order:");
        Bench b = Bench.inSessionTwo();
        b.ticks(8);
        b.frame(16, 34, 62);
        b.ticks(3);
        Bench.due("the session after 11 ticks", b.unit.state(1), 2);
        b.ticks(1);
        Bench.due("the bytes wanted", b.unit.state(6), 0);
        Bench.due("the session, at the tick that drops the request", b.unit.state(1), 1);
    }

    private static void answersGoBeforeSessions() {
        Bench.says("A tick.");
        Bench b = Bench.inSessionTwo();
        b.frame(2, 34, 2);
        for (int round = 0; round < 3; round++) {
            b.ticks(3);
            b.frame(49);
        }
        b.ticks(3);
        Bench.due("the session after 12 ticks", b.unit.state(1), 2);
        b.ticks(1);
        Bench.due("the bytes to be sent", b.unit.state(7), 0);
        Bench.due("the session, at the tick that drops the answer", b.unit.state(1), 1);
    }

    /** Goes to a session by a request, or to session 1 by ten ticks. */
    private static void change(Bench b, int way) {
        if (way == 0) {
            b.ticks(10);
            Bench.due("the session", b.unit.state(1), 1);
        } else {
            b.askDue("80 " + way, 16, way);
        }
    }

    private static void changesLock() {
        Bench.says("When the session changes (to the same one, too) the unit is locked,");
        for (int way = 0; way <= 2; way++) {
            Bench b = Bench.unlocked();
            Bench.due("whether it is unlocked", b.unit.state(2), 1);
            change(b, way);
            Bench.due("whether it is unlocked after change " + way, b.unit.state(2), 0);
            b.askDue("80 2", 16, 2);
            b.askDue("127 46 51", 46, 1, 5);
        }
    }

    private static void changesCloseSeeds() {
        Bench.says("no seed is open, and nothing is downloaded.");
        for (int way = 0; way <= 2; way++) {
            Bench b = Bench.inSessionTwo();
            int seed = b.seed();
            change(b, way);
            if (way < 2) {
                b.askDue("80 2", 16, 2);
            }
            b.askDue("127 39 36", 39, 2, Bench.keyFor(seed));
        }
    }

    private static void changesEndDownloads() {
        Bench.says("no seed is open, and nothing is downloaded.");
        for (int way = 0; way <= 2; way++) {
            for (int size = 1; size <= 2; size++) {
                Bench b = Bench.unlocked();
                b.askDue("116 8", 52, 1, size);
                b.askDue("118 1", 54, 1, 7);
                Bench.due("bytes to come", b.unit.state(3), size - 1);
                change(b, way);
                Bench.due("the download after change " + way, b.unit.state(3), TwinLoader.NONE);
                b.unlock();
                b.askDue("127 54 36", 54, 2, 7);
                b.askDue("127 55 36", 55);
            }
        }
    }

    /** The document says of these only that booting ends them. */
    private static void changesLeaveTheRest() {
        Bench.says("When the session changes (to the same one, too) the unit is locked,");
        for (int way = 0; way <= 2; way++) {
            Bench b = Bench.unlocked();
            b.askDue("110 1", 46, 1, 200);
            b.check(1);
            b.unit.cut(3);
            b.empty();
            b.frame(2, 62, 0);
            b.frame(2, 62, 0);
            if (way == 0) {
                b.ticks(10);
            } else {
                b.frame(2, 16, way);
            }
            Bench.due("frames that wait", b.frame(0), way == 0 ? 2 : 3);
            Bench.due("the slot that is checked", b.unit.state(5), 1);
            Bench.due("whether a cut is ordered", b.unit.state(4), 1);
            b.askDue("98 1 200", 34, 1);
        }
        Bench b = Bench.inSessionTwo();
        b.wrongKeyDue("127 39 53");
        b.askDue("80 1", 16, 1);
        b.askDue("80 2", 16, 2);
        b.wrongKeyDue("127 39 54");
        b.askDue("80 1", 16, 1);
        Bench.due("the delay", b.unit.state(8), 8);
    }

    private static void ticksLeaveTheRest() {
        Bench.says("A tick.");
        Bench b = new Bench();
        b.send(62, 0);
        b.unit.cut(7);
        String all = b.flash(0, 96);
        b.ticks(40);
        Bench.due("the flash", b.flash(0, 96), all);
        b.statesDue("after 40 ticks", 0, 1, 0, -1, 1, -1, 0, 0, 0);
        Bench.due("the frame that waits", b.taken(), "2 126 0 0 0 0 0 0");
    }
}
