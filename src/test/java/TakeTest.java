/** Promise 4: frames are taken in the order in which they were sent. */
public final class TakeTest {
    public static void main(String[] args) {
        Bench b = new Bench();
        Bench.due("take() of nothing", b.unit.take(), false);
        int sent = 0;
        int taken = 0;
        for (int round = 0; round < 20; round++) {
            for (int k = 0; k < 7 && sent - taken < 12; k++) {
                Bench.due("frames that wait", b.frame(1, 100 + sent), sent + 1 - taken);
                sent++;
            }
            for (int k = 0; k < 5; k++) {
                Bench.due("the byte of a frame", b.unit.peek(2), 100 + taken & 255);
                Bench.due("take()", b.unit.take(), true);
                taken++;
            }
        }
        while (taken < sent) {
            Bench.due("the byte of a frame", b.unit.peek(2), 100 + taken & 255);
            Bench.due("take()", b.unit.take(), true);
            taken++;
        }
        Bench.due("take() after the last one", b.unit.take(), false);
        Bench.due("take() once more", b.unit.take(), false);
        Bench.due("a frame after that", b.frame(2, 62, 0), 1);
        Bench.end();
    }
}
