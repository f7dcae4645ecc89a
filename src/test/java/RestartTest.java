/** Promise 7: what booting by restart ends, and what stays. */
public final class RestartTest {
    public static void main(String[] args) {
        everythingEnds();
        receivingAndSendingEnd();
        someThingsStay();
        aNewUnitRestarts();
        Bench.end();
    }

    private static void everythingEnds() {
        Bench b = new Bench();
        b.unlock();
        b.release(1, 3, 2, 1);
        b.askDue("110 1", 46, 1, 5);
        b.askDue("116 8", 52, 1, 9);
        b.check(1);
        b.send(62, 0);
        b.unit.restart();
        int[] want = {1, 1, 0, -1, 0, -1, 0, 0, 0};
        for (int what = 0; what < want.length; what++) {
            Bench.due("state(" + what + ")", b.unit.state(what), want[what]);
        }
        Bench.due("the frames that wait", b.taken(), "none");
        Bench.due("a frame after it", b.frame(2, 34, 1), 1);
        Bench.due("the byte that was written", b.taken(), "3 98 1 0 0 0 0 0");
    }

    private static void receivingAndSendingEnd() {
        Bench b = new Bench();
        b.frame(16, 9, 200);
        b.unit.restart();
        Bench.due("bytes wanted", b.unit.state(6), 0);
        Bench.due("the next frame", b.frame(33), 0);
        b.frame(2, 34, 2);
        b.unit.restart();
        Bench.due("bytes to be sent", b.unit.state(7), 0);
        Bench.due("48 0", b.frame(48, 0), 0);
        Bench.due("a request", b.frame(2, 62, 0), 1);
    }

    private static void someThingsStay() {
        Bench b = new Bench();
        b.unlock();
        b.load(1, 3, 2, 1);
        String all = b.flash(0, 96);
        b.unit.cut(0xFF);
        b.unit.restart();
        Bench.due("the flash", b.flash(0, 96), all);
        Bench.due("the cut", b.unit.state(4), 1);
        b.askDue("80 2", 16, 2);
        b.askDue("103 1 90", 39, 1);
        b.askDue("103 2", 39, 2, 197);
        b.askDue("116 8", 52, 1, 2);
        b.askDue("", 54, 1, 0, 0);
        Bench.due("what the cut left", b.flash(48, 51), "0 2 1");
    }

    private static void aNewUnitRestarts() {
        Bench b = new Bench();
        String all = b.flash(0, 96);
        b.unit.restart();
        b.unit.restart();
        Bench.due("the flash", b.flash(0, 96), all);
        Bench.due("the slot that runs", b.unit.state(0), 0);
    }
}
