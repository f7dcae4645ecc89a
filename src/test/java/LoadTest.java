/** What the unit is: the whole way of loading it anew, on one object from first to last. */
public final class LoadTest {
    private static final int CALLS = 512;

    public static void main(String[] args) {
        loadedAnewFrameByFrame();
        loadedAnewTimeAndAgain();
        loadedAnewAfterACut();
        theLastCallThatIsPromised();
        Bench.end();
    }

    /** A frame, how many wait then, and the first of these, which is taken. */
    private static void exchange(Bench b, String want, int... frame) {
        Bench.due("frames that wait after " + Bench.text(frame), b.frame(frame), want.equals("none") ? 0 : 1);
        Bench.due("what is sent for " + Bench.text(frame), b.taken(), want);
    }

    private static void loadedAnewFrameByFrame() {
        Bench.says("A control unit that is loaded anew over frames of eight bytes: requests in one frame or several,"
                + " answers likewise, sessions, a lock, downloads into a flash whose bits are only cleared by writing,"
                + " two slots of which one runs, and power cuts that leave what was being written half done.");
        Bench b = new Bench();
        exchange(b, "2 80 2 0 0 0 0 0", 2, 16, 2);
        exchange(b, "3 103 1 17 0 0 0 0", 2, 39, 1);
        exchange(b, "2 103 2 0 0 0 0 0", 3, 39, 2, 88);
        exchange(b, "3 113 1 1 0 0 0 0", 4, 49, 1, 1, 1);
        exchange(b, "2 116 8 0 0 0 0 0", 3, 52, 1, 12);
        exchange(b, "48 2 0 0 0 0 0 0", 16, 10, 54, 1, 10, 20, 30, 40);
        exchange(b, "2 118 1 0 0 0 0 0", 33, 50, 60, 70, 80);
        exchange(b, "2 118 2 0 0 0 0 0", 6, 54, 2, 90, 100, 110, 120);
        exchange(b, "1 119 0 0 0 0 0 0", 1, 55);
        int sum = b.sumOfSlot(1);
        exchange(b, "4 113 1 2 1 0 0 0", 6, 49, 1, 2, 1, sum / 256, sum % 256);
        exchange(b, "3 113 1 3 0 0 0 0", 4, 49, 1, 3, 1);
        exchange(b, "2 81 1 0 0 0 0 0", 2, 17, 1);
        exchange(b, "3 98 0 1 0 0 0 0", 2, 34, 0);
        exchange(b, "16 10 98 2 10 20 30 40", 2, 34, 2);
        exchange(b, "33 50 60 70 80 0 0 0", 48, 0);
        exchange(b, "none", 48, 0);
    }

    private static void loadedAnewTimeAndAgain() {
        Bench.says("A control unit that is loaded anew over frames of eight bytes: requests in one frame or several,"
                + " answers likewise, sessions, a lock, downloads into a flash whose bits are only cleared by writing,"
                + " two slots of which one runs, and power cuts that leave what was being written half done.");
        Bench b = new Bench();
        for (int round = 1; round <= 3; round++) {
            int slot = round % 2;
            b.unlock();
            b.release(slot, 8 * round, 1, 2, 3, 4, 5, 6, 7, 8);
            b.askDue("81 1", 17, 1);
            b.askDue("98 0 " + slot, 34, 0);
            b.askDue("98 2 " + 8 * round + " 1 2 3 4 5 6 7", 34, 2);
        }
    }

    /** The steps of a loading that change the flash: erasing, two blocks, releasing. */
    private static void loadedAnewAfterACut() {
        Bench.says("A control unit that is loaded anew over frames of eight bytes: requests in one frame or several,"
                + " answers likewise, sessions, a lock, downloads into a flash whose bits are only cleared by writing,"
                + " two slots of which one runs, and power cuts that leave what was being written half done.");
        int[] numbers = {0, -1, 0x0F0F0F0F, 0x00FFFF00, 0x12345678};
        for (int step = 0; step < 4; step++) {
            for (int number : numbers) {
                Bench b = Bench.unlocked();
                loadWithACut(b, step, number);
                Bench.due("the slot that runs after the cut", b.unit.state(0), 0);
                b.unlock();
                b.release(1, 7, 6, 5);
                b.unit.restart();
                Bench.due("the slot that runs when it was loaded anew", b.unit.state(0), 1);
                b.askDue("98 2 7 6 5 255 255 255 255 255", 34, 2);
            }
        }
    }

    private static void loadWithACut(Bench b, int tornStep, int number) {
        int[][] steps = {{49, 1, 1, 1}, {54, 1, 1, 2, 3, 4, 5, 6, 7, 8}, {54, 2, 9}, {49, 1, 3, 1}};
        String[] answers = {"113 1 1", "118 1", "118 2", "113 1 3"};
        for (int step = 0; step <= tornStep; step++) {
            if (step == 1) {
                b.askDue("116 8", 52, 1, 9);
            }
            if (step == 3) {
                b.askDue("119", 55);
                b.check(1);
            }
            if (step == tornStep) {
                b.unit.cut(number);
            }
            b.askDue(step == tornStep ? "" : answers[step], steps[step]);
        }
    }

    private static void theLastCallThatIsPromised() {
        Bench.says("An object is used for at most 512 calls after it has been made; what later calls answer is free.");
        Unit unit = new Unit();
        for (int calls = 0; calls < CALLS - 2; calls += 2) {
            Bench.due("62 0 as call " + (calls + 1), unit.frame(0x023E0000, 0), 1);
            Bench.due("call " + (calls + 2), unit.take(), true);
        }
        Bench.due("62 0 as call 511", unit.frame(0x023E0000, 0), 1);
        Bench.due("the last call that is promised", unit.peek(1), 126);
    }
}
