/** Promise 5: what ticks drop, the session that ends, the delay, and their order. */
public final class TickTest {
    public static void main(String[] args) {
        requestsAreDropped();
        answersAreDropped();
        sessionsEnd();
        requestsKeepASessionOn();
        otherFramesDoNot();
        wantedBytesKeepASessionOn();
        waitingAnswersKeepASessionOn();
        theDelayGrowsShorter();
        ticksLeaveOtherThingsAlone();
        Bench.end();
    }

    private static void requestsAreDropped() {
        Bench b = new Bench();
        b.frame(16, 34, 200);
        b.ticks(3);
        Bench.due("bytes wanted after 3 ticks", b.unit.state(6), 28);
        b.frame(33);
        b.ticks(3);
        Bench.due("bytes wanted after 3 ticks more", b.unit.state(6), 21);
        b.frame(48, 0);
        b.frame(200);
        b.frame(16, 5);
        b.unit.tick();
        Bench.due("bytes wanted after the fourth tick", b.unit.state(6), 0);
        b.empty();
        Bench.due("the next frame", b.frame(34), 0);
        b.frame(16, 8, 200);
        b.ticks(3);
        b.frame(16, 8, 200);
        b.ticks(3);
        Bench.due("bytes wanted by a new first frame", b.unit.state(6), 2);
        b.unit.tick();
        Bench.due("bytes wanted", b.unit.state(6), 0);
        b.ticks(3);
        b.frame(16, 8, 200);
        b.unit.tick();
        Bench.due("ticks before the first frame don't count", b.unit.state(6), 2);
        b.frame(16, 14, 200);
        b.frame(33);
        b.ticks(3);
        Bench.due("a single byte is wanted", b.unit.state(6), 1);
        b.unit.tick();
        Bench.due("a single byte was wanted", b.unit.state(6), 0);
    }

    private static void answersAreDropped() {
        Bench b = new Bench();
        b.frame(2, 34, 2);
        b.ticks(3);
        Bench.due("bytes to be sent after 3 ticks", b.unit.state(7), 4);
        b.frame(2, 62, 0);
        b.unit.tick();
        Bench.due("bytes to be sent after 4 ticks", b.unit.state(7), 0);
        Bench.due("48 0 then", b.frame(48, 0), 1);
        b.frame(2, 34, 2);
        b.ticks(3);
        b.frame(49);
        b.ticks(3);
        Bench.due("bytes to be sent after 49 and 3 ticks", b.unit.state(7), 4);
        b.frame(49);
        b.ticks(4);
        Bench.due("bytes to be sent after 49 and 4 ticks", b.unit.state(7), 0);
        Bench.due("the frames that wait", b.frame(0), 2);
        b.frame(2, 34, 2);
        b.unit.tick();
        Bench.due("earlier ticks don't count", b.unit.state(7), 4);
    }

    private static void sessionsEnd() {
        Bench b = new Bench();
        b.unlock();
        b.check(1);
        b.askDue("110 1", 46, 1, 42);
        b.askDue("116 8", 52, 1, 9);
        b.check(1);
        b.ticks(9);
        Bench.due("the session after 9 ticks", b.unit.state(1), 2);
        Bench.due("unlocked after 9 ticks", b.unit.state(2), 1);
        Bench.due("bytes to come after 9 ticks", b.unit.state(3), 9);
        b.unit.tick();
        Bench.due("the session after 10 ticks", b.unit.state(1), 1);
        Bench.due("unlocked after 10 ticks", b.unit.state(2), 0);
        Bench.due("bytes to come after 10 ticks", b.unit.state(3), TwinLoader.NONE);
        Bench.due("the slot checked after 10 ticks", b.unit.state(5), 1);
        b.askDue("98 1 42", 34, 1);
        b.askDue("80 2", 16, 2);
        b.ask(39, 1);
        b.ticks(10);
        b.askDue("80 2", 16, 2);
        b.askDue("127 39 36", 39, 2, 0);
        b.ticks(20);
        b.askDue("80 2", 16, 2);
        b.ticks(9);
        Bench.due("ticks before the request don't count", b.unit.state(1), 2);
    }

    private static void requestsKeepASessionOn() {
        int[][] requests = {{62, 0}, {200}, {62}, {39, 9}, {52, 1, 1}, {34, 1}};
        for (int[] request : requests) {
            Bench b = new Bench();
            b.askDue("80 2", 16, 2);
            b.ticks(9);
            b.ask(request);
            b.ticks(9);
            Bench.due("the session kept by " + Bench.text(request), b.unit.state(1), 2);
            b.unit.tick();
            Bench.due("the session after 10 ticks", b.unit.state(1), 1);
        }
    }

    private static void otherFramesDoNot() {
        Bench b = new Bench();
        b.askDue("80 2", 16, 2);
        b.ticks(9);
        b.frame(0);
        b.frame(48, 0);
        b.frame(33, 62, 0);
        b.frame(16, 34, 62);
        b.frame(47);
        b.unit.tick();
        Bench.due("the session", b.unit.state(1), 1);
    }

    private static void wantedBytesKeepASessionOn() {
        Bench b = new Bench();
        b.askDue("80 2", 16, 2);
        b.ticks(8);
        b.frame(16, 34, 62);
        b.ticks(3);
        Bench.due("the session after 11 ticks", b.unit.state(1), 2);
        b.unit.tick();
        Bench.due("the bytes wanted", b.unit.state(6), 0);
        Bench.due("the session, as soon as they are dropped", b.unit.state(1), 1);
        b.askDue("80 2", 16, 2);
        b.ticks(9);
        b.frame(16, 8, 62);
        b.ticks(3);
        b.frame(33);
        b.ticks(9);
        Bench.due("the session after the request was complete", b.unit.state(1), 2);
        b.ticks(1);
        Bench.due("the session", b.unit.state(1), 1);
        b.askDue("80 2", 16, 2);
        b.ticks(9);
        b.frame(16, 8, 62);
        b.ticks(2);
        b.frame(40);
        b.ticks(1);
        Bench.due("the session after a wrong number", b.unit.state(1), 1);
    }

    private static void waitingAnswersKeepASessionOn() {
        Bench b = new Bench();
        b.askDue("80 2", 16, 2);
        b.frame(2, 34, 2);
        for (int round = 0; round < 4; round++) {
            b.ticks(3);
            b.frame(49);
        }
        Bench.due("the session after 12 ticks", b.unit.state(1), 2);
        b.ticks(3);
        Bench.due("the session after 15 ticks", b.unit.state(1), 2);
        b.unit.tick();
        Bench.due("the session, as soon as it is dropped", b.unit.state(1), 1);
        b.askDue("80 2", 16, 2);
        b.frame(2, 34, 2);
        for (int round = 0; round < 4; round++) {
            b.ticks(3);
            b.frame(49);
        }
        b.frame(48, 0);
        Bench.due("the session", b.unit.state(1), 2);
        b.unit.tick();
        Bench.due("the session, after the answer was sent", b.unit.state(1), 1);
    }

    private static void theDelayGrowsShorter() {
        Bench b = new Bench();
        b.askDue("80 2", 16, 2);
        b.ask(39, 1);
        b.ask(39, 2, 0);
        b.ticks(3);
        b.ask(39, 1);
        b.ask(39, 2, 0);
        for (int delay = 8; delay > 0; delay--) {
            Bench.due("the delay", b.unit.state(8), delay);
            b.unit.tick();
        }
        Bench.due("the delay", b.unit.state(8), 0);
        b.ticks(3);
        Bench.due("the delay", b.unit.state(8), 0);
    }

    private static void ticksLeaveOtherThingsAlone() {
        Bench b = new Bench();
        b.send(62, 0);
        b.unit.cut(7);
        String all = b.flash(0, 96);
        b.ticks(40);
        Bench.due("the flash", b.flash(0, 96), all);
        Bench.due("the session", b.unit.state(1), 1);
        Bench.due("the cut", b.unit.state(4), 1);
        Bench.due("the frame that waits", b.taken(), "2 126 0 0 0 0 0 0");
    }
}
