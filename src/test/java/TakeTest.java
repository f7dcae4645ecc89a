/** Promise 4: frames are taken in the order in which they were sent. */
public final class TakeTest {
    public static void main(String[] args) {
        theFirstFrame();
        noFrameWaits();
        Bench.end();
    }

    /** The row goes round several times. */
    private static void theFirstFrame() {
        Bench.says("Takes the first frame that waits; false if there is none.");
        Bench b = new Bench();
        int sent = 0;
        int taken = 0;
        for (int round = 0; round < 20; round++) {
            for (int k = 0; k < 7 && sent - taken < 12; k++) {
                Bench.due("frames that wait", b.frame(1, 100 + sent), sent + 1 - taken);
                sent++;
            }
            for (int k = 0; k < 5; k++) {
                Bench.due("the byte of a frame", b.unit.peek(2), 100 + taken);
                Bench.due("take()", b.unit.take(), true);
                taken++;
            }
        }
        while (taken < sent) {
            Bench.due("the byte of a frame", b.unit.peek(2), 100 + taken);
            Bench.due("take()", b.unit.take(), true);
            taken++;
        }
        Bench.due("take() after the last one", b.unit.take(), false);
    }

    private static void noFrameWaits() {
        Bench.says("Takes the first frame that waits; false if there is none.");
        Bench b = new Bench();
        Bench.due("take() at first", b.unit.take(), false);
        Bench.due("take() once more", b.unit.take(), false);
        Bench.due("frames that wait after a request", b.frame(2, 62, 0), 1);
        Bench.due("take()", b.unit.take(), true);
        Bench.due("take() after the last one", b.unit.take(), false);
        Bench.due("take() once more", b.unit.take(), false);
        Bench.due("frames that wait after a request", b.frame(1, 77), 1);
        Bench.due("its answer", b.taken(), "3 127 77 17 0 0 0 0");
    }
}
