/** Promise 6: power cuts, and what they leave of a writing or an erasing. */
public final class CutTest {
    private static final int[] NUMBERS = {0, -1, 1, 0x80000000, 0x55555555, 0x0F1E2D3C, 0xA5C30F96};

    public static void main(String[] args) {
        blocks();
        erasing();
        serialAndSum();
        theMark();
        whereErasingBegins();
        whatIsLostWithIt();
        newOrders();
        whatDoesNotTear();
        Bench.end();
    }

    private static Bench unlocked() {
        Bench b = new Bench();
        b.unlock();
        return b;
    }

    /** What is there afterwards, bit by bit, as the document says it. */
    private static int torn(int old, int aim, int k, int number) {
        int left = old;
        for (int bit = 0; bit < 8; bit++) {
            boolean differs = (old >> bit & 1) != (aim >> bit & 1);
            boolean changes = (number >> (8 * k + bit) % 32 & 1) == 1;
            if (differs && changes) {
                left ^= 1 << bit;
            }
        }
        return left;
    }

    private static void blocks() {
        int[] values = {0, 255, 0x3C, 0x81, 0x0F, 0xF0, 0x55, 0};
        for (int number : NUMBERS) {
            Bench b = unlocked();
            b.askDue("116 8", 52, 1, 32);
            b.askDue("118 1", 54, 1, 200, 100);
            b.unit.cut(number);
            Bench.due("a cut is ordered", b.unit.state(4), 1);
            b.askDue("", 54, 2, 0, 255, 0x3C, 0x81, 0x0F, 0xF0, 0x55, 0);
            int[] want = new int[8];
            for (int k = 0; k < 8; k++) {
                want[k] = torn(255, 255 & values[k], k, number);
            }
            Bench.due("what " + number + " left of a block", b.flash(48, 59), "200 100 " + Bench.text(want) + " 255");
            Bench.due("no cut is ordered", b.unit.state(4), 0);
            Bench.due("no download", b.unit.state(3), TwinLoader.NONE);
        }
        Bench b = unlocked();
        b.askDue("116 8", 52, 1, 2);
        b.askDue("118 1", 54, 1, 0xF0, 0x0F);
        b.askDue("116 8", 52, 1, 2);
        b.unit.cut(0x0000FF3C);
        b.askDue("", 54, 1, 0x0F, 0xF0);
        Bench.due("bits are only cleared", b.flash(48, 50), (0xF0 & ~0x3C) + " 0");
    }

    private static void erasing() {
        int[] image = new int[32];
        for (int k = 0; k < 32; k++) {
            image[k] = 37 * k & 255;
        }
        for (int number : NUMBERS) {
            Bench b = unlocked();
            b.release(1, image);
            int[] header = new int[16];
            for (int k = 0; k < 16; k++) {
                header[k] = torn(b.unit.flash(80 + k), 255, k, number);
            }
            b.unit.cut(number);
            b.askDue("", 49, 1, 1, 1);
            Bench.due("what " + number + " left of a header", b.flash(80, 96), Bench.text(header));
            Bench.due("the image", b.flash(48, 80), Bench.text(image));
        }
        for (int number : NUMBERS) {
            Bench b = new Bench();
            b.unlock();
            b.release(1, image);
            b.unit.restart();
            Bench.due("the slot that runs", b.unit.state(0), 1);
            b.unlock();
            b.unit.cut(number);
            b.askDue("", 49, 1, 1, 0);
            int good = number >> 8 & 255;
            boolean keepsMarkAndSum = (number & 255) == 0 && (b.unit.word(32) & 0xFFFF) == Bench.FIRST_SUM;
            Bench.due("the slot that runs after " + number, b.unit.state(0),
                    keepsMarkAndSum && (1 | good) > 2 ? 0 : 1);
        }
    }

    private static void serialAndSum() {
        for (int number : NUMBERS) {
            Bench b = unlocked();
            b.load(1, 9, 8, 7);
            b.check(1);
            int sum = b.sumOfSlot(1);
            b.unit.cut(number);
            b.askDue("", 49, 1, 3, 1);
            int[] want = {255, torn(255, 2, 0, number), torn(255, sum >> 8, 1, number), torn(255, sum & 255, 2, number)};
            Bench.due("what " + number + " left of serial and sum", b.flash(80, 84), Bench.text(want));
            Bench.due("the slot that runs", b.unit.state(0), 0);
            Bench.due("no cut is ordered", b.unit.state(4), 0);
        }
    }

    /** A cut always meets serial and sum before the mark: the mark is left for another request. */
    private static void theMark() {
        Bench b = unlocked();
        b.load(1, 9, 8, 7);
        b.check(1);
        b.unit.cut(-1);
        b.askDue("", 49, 1, 3, 1);
        Bench.due("the mark", b.unit.flash(80), 255);
        Bench.due("the serial", b.unit.flash(81), 2);
        Bench.due("the slot that runs", b.unit.state(0), 0);
        b.unlock();
        b.check(1);
        b.askDue("113 1 3", 49, 1, 3, 1);
        Bench.due("the mark", b.unit.flash(80), 0);
        b.unit.restart();
        Bench.due("the slot that runs", b.unit.state(0), 1);
    }

    private static void whereErasingBegins() {
        Bench b = unlocked();
        b.load(1, 1, 2, 3);
        b.unit.cut(-1);
        b.askDue("", 49, 1, 1, 1);
        Bench.due("the image when the header was erased", b.flash(48, 51), "1 2 3");
        b.unlock();
        b.askDue("113 1 1", 49, 1, 1, 1);
        Bench.due("the image", b.flash(48, 51), "255 255 255");
    }

    private static void whatIsLostWithIt() {
        Bench b = unlocked();
        b.askDue("110 1", 46, 1, 5);
        b.askDue("116 8", 52, 1, 9);
        b.check(1);
        b.empty();
        b.send(62, 0);
        b.send(62, 0);
        b.unit.cut(3);
        Bench.due("frames that wait then", b.frame(3, 54, 1, 0), 0);
        int[] want = {0, 1, 0, -1, 0, -1, 0, 0, 0};
        for (int what = 0; what < want.length; what++) {
            Bench.due("state(" + what + ")", b.unit.state(what), want[what]);
        }
        Bench.due("what was written", b.flash(48, 50), "252 255");
        b.askDue("98 1 0", 34, 1);
        b.askDue("80 2", 16, 2);
        b.askDue("103 1 90", 39, 1);
    }

    private static void newOrders() {
        Bench b = unlocked();
        b.askDue("116 8", 52, 1, 9);
        b.unit.cut(0);
        b.unit.cut(0xF0);
        Bench.due("a cut is ordered", b.unit.state(4), 1);
        b.askDue("", 54, 1, 0);
        Bench.due("what the second order left", b.unit.flash(48), 0x0F);
        b.unlock();
        b.askDue("116 8", 52, 1, 9);
        b.askDue("118 1", 54, 1, 0);
        Bench.due("what is written without one", b.unit.flash(48), 0);
    }

    private static void whatDoesNotTear() {
        Bench b = unlocked();
        b.askDue("116 8", 52, 1, 2);
        b.unit.cut(-1);
        b.askDue("127 54 115", 54, 2, 0);
        b.askDue("127 54 49", 54, 1, 0, 0, 0);
        b.askDue("127 49 34", 49, 1, 1, 0);
        b.askDue("127 49 34", 49, 1, 3, 1);
        b.check(1);
        b.askDue("127 49 34", 49, 1, 3, 0);
        b.askDue("98 2 0 1 2 3 4 5 6 7", 34, 2);
        b.askDue("110 1", 46, 1, 3);
        b.askDue("81 1", 17, 1);
        Bench.due("a cut is still ordered", b.unit.state(4), 1);
        b.unit.restart();
        Bench.due("a cut is still ordered", b.unit.state(4), 1);
        b.unlock();
        b.askDue("", 49, 1, 1, 1);
        Bench.due("an erasing that changes nothing is torn", b.unit.state(4), 0);
        Bench.due("the session then", b.unit.state(1), 1);
    }
}
