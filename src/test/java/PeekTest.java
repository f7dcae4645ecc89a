/** Promise 3: the bytes of the first frame that waits. */
public final class PeekTest {
    public static void main(String[] args) {
        bytesOfTheFirstFrame();
        bytesThatAreNotThere();
        noFrameWaits();
        greatBytes();
        Bench.end();
    }

    private static void bytesDue(Bench b, int... want) {
        for (int k = 0; k < 8; k++) {
            Bench.due("peek(" + k + ")", b.unit.peek(k), want[k]);
        }
    }

    private static void bytesOfTheFirstFrame() {
        Bench.says("Byte k (0 .. 7) of the first frame that waits; NONE if there is none.");
        Bench b = new Bench();
        b.frame(2, 34, 2);
        b.frame(48, 0);
        bytesDue(b, 16, 10, 98, 2, 0, 1, 2, 3);
        bytesDue(b, 16, 10, 98, 2, 0, 1, 2, 3);
        Bench.due("frames that wait, after looking", b.frame(0), 2);
        b.unit.take();
        bytesDue(b, 33, 4, 5, 6, 7, 0, 0, 0);
    }

    private static void bytesThatAreNotThere() {
        Bench.says("Byte k (0 .. 7) of the first frame that waits; NONE if there is none.");
        Bench b = new Bench();
        b.frame(2, 34, 2);
        b.frame(48, 0);
        int[] wrong = {-1, -2, 8, 9, 15, 16, 255, -8, Integer.MIN_VALUE, Integer.MAX_VALUE};
        for (int k : wrong) {
            Bench.due("peek(" + k + ")", b.unit.peek(k), TwinLoader.NONE);
        }
    }

    private static void noFrameWaits() {
        Bench.says("Byte k (0 .. 7) of the first frame that waits; NONE if there is none.");
        Bench b = new Bench();
        for (int k = -2; k < 10; k++) {
            Bench.due("peek(" + k + ") at first", b.unit.peek(k), TwinLoader.NONE);
        }
        b.frame(2, 62, 0);
        b.unit.take();
        for (int k = -2; k < 10; k++) {
            Bench.due("peek(" + k + ") after the last one", b.unit.peek(k), TwinLoader.NONE);
        }
    }

    private static void greatBytes() {
        Bench.says("Byte k (0 .. 7) of the first frame that waits; NONE if there is none.");
        Bench b = new Bench();
        for (int service = 128; service < 256; service += 127) {
            b.send(service);
            Bench.due("peek(2), a byte of " + service, b.unit.peek(2), service);
            b.unit.take();
        }
    }
}
