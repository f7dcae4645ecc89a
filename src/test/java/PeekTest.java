/** Promise 3: the bytes of the first frame that waits. */
public final class PeekTest {
    public static void main(String[] args) {
        Bench b = new Bench();
        for (int k = -2; k < 10; k++) {
            Bench.due("peek(" + k + ") of nothing", b.unit.peek(k), TwinLoader.NONE);
        }
        b.frame(2, 34, 2);
        b.frame(48, 0);
        int[] want = {16, 10, 98, 2, 0, 1, 2, 3};
        for (int round = 0; round < 2; round++) {
            for (int k = 0; k < 8; k++) {
                Bench.due("peek(" + k + ")", b.unit.peek(k), want[k]);
            }
        }
        int[] wrong = {-1, 8, 9, 16, 255, -8, Integer.MIN_VALUE, Integer.MAX_VALUE};
        for (int k : wrong) {
            Bench.due("peek(" + k + ")", b.unit.peek(k), TwinLoader.NONE);
        }
        b.unit.take();
        int[] next = {33, 4, 5, 6, 7, 0, 0, 0};
        for (int k = 0; k < 8; k++) {
            Bench.due("peek(" + k + ") of the next one", b.unit.peek(k), next[k]);
        }
        b.unit.take();
        Bench.due("peek(0) after the last one", b.unit.peek(0), TwinLoader.NONE);
        greatBytes();
        Bench.end();
    }

    private static void greatBytes() {
        Bench b = new Bench();
        b.send(255);
        Bench.due("peek(2), a byte of 255", b.unit.peek(2), 255);
        Bench.due("what is behind the bytes", b.taken(), "3 127 255 17 0 0 0 0");
    }
}
