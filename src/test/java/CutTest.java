/** A POWER CUT, and promise 6. */
public final class CutTest {
    private static final int[] NUMBERS = {0, -1, 1, 0x80000000, 0x55555555, 0x0F1E2D3C, 0xA5C30F96};

    public static void main(String[] args) {
        tornBlocks();
        tornSerialsAndSums();
        tornErasings();
        writingsThatChangeNothing();
        erasingsThatChangeNothing();
        whatIsNoWriting();
        eachBitOfTheNumberInABlock();
        eachBitOfTheNumberInASector();
        eachBitOfTheNumberInSerialAndSum();
        onlyBitsThatShouldChange();
        noAnswerAndABoot();
        nothingMoreOfARelease();
        nothingMoreOfAnErasing();
        tornDownloads();
        noCutAnyMore();
        anyNumber();
        inPlaceOfOneBefore();
        orderedInAnyState();
        Bench.end();
    }

    /** What is there afterwards, bit by bit, as the document says it. */
    private static int torn(int old, int aim, int k, int number) {
        int left = old;
        for (int bit = 0; bit < 8; bit++) {
            boolean differs = (old >> bit & 1) != (aim >> bit & 1);
            boolean changes = (number >> (8 * k + bit) % 32 & 1) == 1;
            if (differs && changes) {
                left ^= 1 << bit;
            }
        }
        return left;
    }

    private static void tornBlocks() {
        Bench.says("A POWER CUT is ordered with a number. The next writing (of a block; of serial and sum; of a mark)"
                + " or erasing of a sector is TORN then:");
        int[] values = {0, 255, 0x3C, 0x81, 0x0F, 0xF0, 0x55, 0};
        for (int number : NUMBERS) {
            Bench b = Bench.unlocked();
            b.askDue("116 8", 52, 1, 32);
            b.askDue("118 1", 54, 1, 200, 100);
            b.unit.cut(number);
            b.askDue("", 54, 2, 0, 255, 0x3C, 0x81, 0x0F, 0xF0, 0x55, 0);
            int[] want = new int[8];
            for (int k = 0; k < 8; k++) {
                want[k] = torn(255, values[k], k, number);
            }
            Bench.due("what " + number + " left of a block", b.flash(48, 59), "200 100 " + Bench.text(want) + " 255");
        }
    }

    private static void tornSerialsAndSums() {
        Bench.says("A POWER CUT is ordered with a number. The next writing (of a block; of serial and sum; of a mark)"
                + " or erasing of a sector is TORN then:");
        for (int number : NUMBERS) {
            Bench b = Bench.unlocked();
            b.load(1, 9, 8, 7);
            b.check(1);
            int sum = b.sumOfSlot(1);
            b.unit.cut(number);
            b.askDue("", 49, 1, 3, 1);
            int[] want = {255, torn(255, 2, 0, number), torn(255, sum / 256, 1, number), torn(255, sum % 256, 2, number)};
            Bench.due("what " + number + " left of a header", b.flash(80, 84), Bench.text(want));
            Bench.due("the slot that runs", b.unit.state(0), 0);
        }
    }

    private static void tornErasings() {
        Bench.says("A POWER CUT is ordered with a number. The next writing (of a block; of serial and sum; of a mark)"
                + " or erasing of a sector is TORN then:");
        for (int number : NUMBERS) {
            Bench b = Bench.unlocked();
            b.release(1, 9, 8, 7);
            int[] header = new int[16];
            for (int k = 0; k < 16; k++) {
                header[k] = torn(b.unit.flash(80 + k), 255, k, number);
            }
            b.unit.cut(number);
            b.askDue("", 49, 1, 1, 1);
            Bench.due("what " + number + " left of a header", b.flash(80, 96), Bench.text(header));
        }
    }

    private static void writingsThatChangeNothing() {
        Bench.says("A POWER CUT is ordered with a number. The next writing (of a block; of serial and sum; of a mark)"
                + " or erasing of a sector is TORN then:");
        Bench b = Bench.unlocked();
        b.askDue("116 8", 52, 1, 4);
        b.unit.cut(-1);
        b.askDue("", 54, 1, 255);
        b.statesDue("after the cut", Bench.BOOTED);
        Bench.due("the image", b.flash(48, 51), "255 255 255");
    }

    private static void erasingsThatChangeNothing() {
        Bench.says("A POWER CUT is ordered with a number. The next writing (of a block; of serial and sum; of a mark)"
                + " or erasing of a sector is TORN then:");
        Bench b = Bench.unlocked();
        b.load(1, 9, 8, 7);
        b.unit.cut(-1);
        b.askDue("", 49, 1, 1, 1);
        b.statesDue("after the cut", Bench.BOOTED);
        Bench.due("the image", b.flash(48, 52), "9 8 7 255");
    }

    private static void whatIsNoWriting() {
        Bench.says("A POWER CUT is ordered with a number. The next writing (of a block; of serial and sum; of a mark)"
                + " or erasing of a sector is TORN then:");
        Bench b = Bench.unlocked();
        b.askDue("116 8", 52, 1, 2);
        b.askDue("118 1", 54, 1, 7);
        b.unit.cut(-1);
        b.askDue("118 1", 54, 1, 7);
        b.askDue("127 54 115", 54, 3, 0);
        b.askDue("127 54 49", 54, 2, 0, 0, 0);
        b.askDue("127 49 34", 49, 1, 1, 0);
        b.askDue("127 49 34", 49, 1, 3, 1);
        b.check(1);
        b.askDue("127 49 34", 49, 1, 3, 0);
        b.askDue("98 2 0 1 2 3 4 5 6 7", 34, 2);
        b.askDue("110 1", 46, 1, 3);
        b.askDue("116 8", 52, 1, 2);
        b.askDue("80 2", 16, 2);
        b.askDue("81 1", 17, 1);
        Bench.due("whether a cut is ordered", b.unit.state(4), 1);
    }

    private static void eachBitOfTheNumberInABlock() {
        Bench.says("of the bits that it should change, bit b of the k-th byte of it (from 0) is changed only if"
                + " bit (8 k + b) modulo 32 of the number is 1.");
        for (int bit = 0; bit < 32; bit++) {
            for (int before = 0; before < 2; before++) {
                Bench b = Bench.unlocked();
                b.askDue("116 8", 52, 1, 32);
                if (before == 1) {
                    b.askDue("118 1", 54, 1, 255, 255, 255);
                }
                b.unit.cut(1 << bit);
                b.askDue("", 54, 1 + before, 0, 0, 0, 0, 0, 0, 0, 0);
                int[] want = new int[8];
                for (int k = 0; k < 8; k++) {
                    want[k] = k % 4 == bit / 8 ? 255 - (1 << bit % 8) : 255;
                }
                int at = 48 + 3 * before;
                Bench.due("what bit " + bit + " left of a block", b.flash(at, at + 8), Bench.text(want));
            }
        }
    }

    /** The mark, the serial and the sum are all that a header can have cleared. */
    private static void eachBitOfTheNumberInASector() {
        Bench.says("of the bits that it should change, bit b of the k-th byte of it (from 0) is changed only if"
                + " bit (8 k + b) modulo 32 of the number is 1.");
        for (int bit = 0; bit < 32; bit++) {
            Bench b = Bench.unlocked();
            b.release(1, 9, 8, 7);
            int old = b.unit.word(80);
            b.unit.cut(1 << bit);
            b.askDue("", 49, 1, 1, 1);
            int set = 1 << bit % 8 + 8 * (3 - bit / 8);
            Bench.due("what bit " + bit + " left of a header", b.unit.word(80), old | set);
        }
    }

    private static void eachBitOfTheNumberInSerialAndSum() {
        Bench.says("of the bits that it should change, bit b of the k-th byte of it (from 0) is changed only if"
                + " bit (8 k + b) modulo 32 of the number is 1.");
        for (int bit = 0; bit < 32; bit++) {
            Bench b = Bench.unlocked();
            b.load(1, 9, 8, 7);
            b.check(1);
            int due = 2 << 16 | b.sumOfSlot(1);
            b.unit.cut(1 << bit);
            b.askDue("", 49, 1, 3, 1);
            int cleared = bit < 24 ? 1 << bit % 8 + 8 * (2 - bit / 8) & ~due : 0;
            Bench.due("what bit " + bit + " left of serial and sum", b.unit.word(80), ~cleared);
        }
    }

    private static void onlyBitsThatShouldChange() {
        Bench.says("of the bits that it should change, bit b of the k-th byte of it (from 0) is changed only if"
                + " bit (8 k + b) modulo 32 of the number is 1.");
        Bench b = Bench.unlocked();
        b.askDue("116 8", 52, 1, 4);
        b.askDue("118 1", 54, 1, 0xF0, 0x0F, 0xAA, 0x00);
        b.askDue("116 8", 52, 1, 4);
        b.unit.cut(0xFFFFFF3C);
        b.askDue("", 54, 1, 0x0F, 0xF0, 0xFF, 0xFF);
        Bench.due("bits are only cleared", b.flash(48, 53), (0xF0 & ~0x3C) + " 0 170 0 255");
        b = Bench.unlocked();
        b.release(1, 5, 6);
        String before = b.flash(80, 96);
        b.unit.cut(0);
        b.askDue("", 49, 1, 1, 1);
        Bench.due("no bit is set", b.flash(80, 96), before);
    }

    private static void noAnswerAndABoot() {
        Bench.says("Then the unit boots, with no answer, and nothing more is done for the request;");
        Bench b = Bench.unlocked();
        b.askDue("110 1", 46, 1, 5);
        b.askDue("116 8", 52, 1, 9);
        b.check(1);
        b.empty();
        b.send(62, 0);
        b.send(62, 0);
        b.unit.cut(3);
        Bench.due("frames that wait then", b.frame(3, 54, 1, 0), 0);
        b.statesDue("after the cut", Bench.BOOTED);
        Bench.due("what is taken", b.taken(), "none");
        b.askDue("98 1 0", 34, 1);
        b.askDue("80 2", 16, 2);
        b.askDue("127 39 36", 39, 2, 88);
        b.askDue("103 1 90", 39, 1);
    }

    private static void nothingMoreOfARelease() {
        Bench.says("Then the unit boots, with no answer, and nothing more is done for the request;");
        Bench b = Bench.unlocked();
        b.load(1, 9, 8, 7);
        b.check(1);
        b.unit.cut(-1);
        b.askDue("", 49, 1, 3, 1);
        Bench.due("the serial, which is written", b.unit.flash(81), 2);
        Bench.due("the mark, which isn't", b.unit.flash(80), 255);
        Bench.due("the slot that runs", b.unit.state(0), 0);
        Bench.due("the slot that is checked", b.unit.state(5), TwinLoader.NONE);
        b.unlock();
        b.check(1);
        b.askDue("113 1 3", 49, 1, 3, 1);
        Bench.due("the mark", b.unit.flash(80), 0);
        b.unit.restart();
        Bench.due("the slot that runs", b.unit.state(0), 1);
    }

    private static void nothingMoreOfAnErasing() {
        Bench.says("Then the unit boots, with no answer, and nothing more is done for the request;");
        Bench b = Bench.unlocked();
        int[] image = new int[32];
        b.load(1, image);
        b.unit.cut(-1);
        b.askDue("", 49, 1, 1, 1);
        Bench.due("the image when the header was torn", b.flash(48, 80), Bench.repeated(0, 32));
        b.unlock();
        b.askDue("113 1 1", 49, 1, 1, 1);
        Bench.due("the image", b.flash(48, 80), Bench.repeated(255, 32));
    }

    private static void tornDownloads() {
        Bench.says("Then the unit boots, with no answer, and nothing more is done for the request;");
        Bench b = Bench.unlocked();
        b.askDue("116 8", 52, 1, 9);
        b.unit.cut(-1);
        b.frame(16, 10, 54, 1, 1, 2, 3, 4);
        Bench.due("frames that wait after a block of two frames", b.frame(33, 5, 6, 7, 8), 0);
        Bench.due("the download", b.unit.state(3), TwinLoader.NONE);
        Bench.due("bytes wanted", b.unit.state(6), 0);
        Bench.due("the image", b.flash(48, 57), "1 2 3 4 5 6 7 8 255");
        b.unlock();
        b.askDue("127 54 36", 54, 2, 9);
    }

    private static void noCutAnyMore() {
        Bench.says("no cut is ordered any more.");
        Bench b = Bench.unlocked();
        b.askDue("116 8", 52, 1, 9);
        b.unit.cut(0);
        b.askDue("", 54, 1, 0);
        Bench.due("whether a cut is ordered", b.unit.state(4), 0);
        b.unlock();
        b.askDue("116 8", 52, 1, 9);
        b.askDue("118 1", 54, 1, 0);
        Bench.due("what is written without a cut", b.unit.flash(48), 0);
        b.askDue("113 1 1", 49, 1, 1, 1);
        Bench.due("what is erased without a cut", b.unit.flash(48), 255);
    }

    private static void anyNumber() {
        Bench.says("Orders a power cut with a number (any; 0 changes no bit),");
        int[] numbers = {0, 1, -1, 255, 256, Integer.MIN_VALUE, Integer.MAX_VALUE};
        for (int number : numbers) {
            Bench b = Bench.unlocked();
            b.askDue("116 8", 52, 1, 9);
            Bench.due("whether a cut is ordered", b.unit.state(4), 0);
            b.unit.cut(number);
            Bench.due("whether a cut is ordered", b.unit.state(4), 1);
            b.askDue("", 54, 1, 0, 0, 0, 0);
            int left = ~Integer.reverseBytes(number);
            Bench.due("what " + number + " left", b.unit.word(48), left);
            Bench.due("whether a cut is ordered", b.unit.state(4), 0);
        }
    }

    private static void inPlaceOfOneBefore() {
        Bench.says("in place of one that was ordered.");
        Bench b = Bench.unlocked();
        b.askDue("116 8", 52, 1, 9);
        b.unit.cut(0x0F);
        b.unit.cut(0);
        b.unit.cut(0xF0);
        Bench.due("whether a cut is ordered", b.unit.state(4), 1);
        b.askDue("", 54, 1, 0);
        Bench.due("what the last order left", b.unit.flash(48), 0x0F);
        Bench.due("whether a cut is ordered", b.unit.state(4), 0);
        b.unlock();
        b.askDue("116 8", 52, 1, 9);
        b.askDue("118 1", 54, 1, 0);
    }

    private static void orderedInAnyState() {
        Bench.says("Orders a power cut with a number (any; 0 changes no bit),");
        Bench b = new Bench();
        String all = b.flash(0, 96);
        b.unit.cut(-1);
        b.statesDue("after the order", 0, 1, 0, -1, 1, -1, 0, 0, 0);
        Bench.due("the flash", b.flash(0, 96), all);
        b.frame(16, 9, 200);
        b.unit.cut(-1);
        Bench.due("bytes wanted", b.unit.state(6), 3);
        b.ticks(20);
        Bench.due("whether a cut is ordered after ticks", b.unit.state(4), 1);
        b.frame(2, 34, 2);
        b.unit.cut(7);
        Bench.due("bytes to be sent", b.unit.state(7), 4);
    }
}
