/** Promises 8 and 9: single bytes of the flash, and four as one number. */
public final class FlashTest {
    public static void main(String[] args) {
        singleBytes();
        words();
        greatWords();
        Bench.end();
    }

    private static void singleBytes() {
        TwinLoader unit = new TwinLoader();
        int[] wrong = {-1, -2, 96, 97, 255, 256, Integer.MIN_VALUE, Integer.MAX_VALUE};
        for (int at : wrong) {
            Bench.due("flash(" + at + ")", unit.flash(at), TwinLoader.NONE);
        }
        Bench.due("flash(0)", unit.flash(0), 0);
        Bench.due("flash(31)", unit.flash(31), 31);
        Bench.due("flash(35)", unit.flash(35), 179);
        Bench.due("flash(95)", unit.flash(95), 255);
    }

    private static void words() {
        Bench b = new Bench();
        b.unlock();
        b.load(1, 128, 64, 200, 255, 0, 1);
        for (int at = 28; at <= 92; at++) {
            long want = 0;
            for (int k = 0; k < 4; k++) {
                want = want * 256 + b.unit.flash(at + k);
            }
            Bench.due("word(" + at + ")", b.unit.word(at), (int) want);
        }
        int[] wrong = {-1, -4, -3, 93, 94, 95, 96, Integer.MIN_VALUE, Integer.MAX_VALUE, Integer.MAX_VALUE - 2};
        for (int at : wrong) {
            Bench.due("word(" + at + ")", b.unit.word(at), 0);
        }
    }

    private static void greatWords() {
        Bench b = new Bench();
        Bench.due("word(0)", b.unit.word(0), 0x00010203);
        Bench.due("word(29)", b.unit.word(29), 0x1D1E1F00);
        Bench.due("word(32)", b.unit.word(32), 0x000123B3);
        Bench.due("word(46)", b.unit.word(46), -1);
        Bench.due("word(92)", b.unit.word(92), -1);
        b.unlock();
        b.load(1, 0x80, 0, 0, 1);
        Bench.due("word(48)", b.unit.word(48), 0x80000001);
    }
}
