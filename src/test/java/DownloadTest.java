/** Promise 2: downloads, their blocks and their end. */
public final class DownloadTest {
    public static void main(String[] args) {
        wholeDownloads();
        blocksThatComeTwice();
        blocksOutOfOrder();
        tooManyBytes();
        withoutADownload();
        theEnd();
        newDownloads();
        theSlotThatRuns();
        bitsAreOnlyCleared();
        blocksAndTheCheckedSlot();
        Bench.end();
    }

    private static Bench unlocked() {
        Bench b = new Bench();
        b.unlock();
        return b;
    }

    private static void wholeDownloads() {
        for (int size = 1; size <= 32; size++) {
            Bench b = unlocked();
            int[] image = new int[size];
            for (int k = 0; k < size; k++) {
                image[k] = 7 * k + size & 255;
            }
            b.load(1, image);
            Bench.due("the image", b.flash(48, 48 + size), Bench.text(image));
            Bench.due("what is behind it", b.flash(48 + size, 96), Bench.repeated(255, 48 - size));
            Bench.due("slot 0", b.flash(0, 4), "0 1 2 3");
        }
        Bench b = unlocked();
        b.askDue("116 8", 52, 1, 32);
        for (int block = 1; block <= 32; block++) {
            Bench.due("bytes to come", b.unit.state(3), 33 - block);
            b.askDue("118 " + block, 54, block, block);
        }
        Bench.due("bytes to come", b.unit.state(3), 0);
        b.askDue("119", 55);
        Bench.due("no download", b.unit.state(3), TwinLoader.NONE);
    }

    private static void blocksThatComeTwice() {
        Bench b = unlocked();
        b.askDue("116 8", 52, 1, 10);
        b.askDue("118 1", 54, 1, 1, 2, 3);
        b.askDue("118 1", 54, 1, 0, 0, 0, 0, 0, 0, 0, 0);
        Bench.due("bytes to come", b.unit.state(3), 7);
        Bench.due("the image", b.flash(48, 56), "1 2 3 255 255 255 255 255");
        b.askDue("118 2", 54, 2, 4);
        b.askDue("118 2", 54, 2, 0, 0, 0, 0, 0, 0, 0, 0);
        b.askDue("127 54 115", 54, 1, 4);
        b.unit.cut(0);
        b.askDue("118 2", 54, 2, 0);
        Bench.due("the cut is still ordered", b.unit.state(4), 1);
    }

    private static void blocksOutOfOrder() {
        for (int number = 0; number < 256; number++) {
            Bench b = unlocked();
            b.askDue("116 8", 52, 1, 10);
            b.askDue(number == 1 ? "118 1" : "127 54 115", 54, number, 0);
            b = unlocked();
            b.askDue("116 8", 52, 1, 10);
            b.askDue("118 1", 54, 1, 77);
            boolean good = number == 1 || number == 2;
            b.askDue(good ? "118 " + number : "127 54 115", 54, number, 0, 0, 0, 0, 0, 0, 0, 0);
        }
        Bench b = unlocked();
        b.askDue("116 8", 52, 1, 10);
        b.askDue("118 1", 54, 1, 77);
        b.askDue("127 54 115", 54, 3, 0, 0, 0, 0, 0, 0, 0, 0);
        Bench.due("bytes to come", b.unit.state(3), 9);
        Bench.due("the image", b.flash(48, 50), "77 255");
    }

    private static void tooManyBytes() {
        Bench b = unlocked();
        b.askDue("116 8", 52, 1, 3);
        b.askDue("127 54 49", 54, 1, 0, 0, 0, 0);
        b.askDue("127 54 115", 54, 2, 0, 0, 0, 0);
        Bench.due("bytes to come", b.unit.state(3), 3);
        Bench.due("the image", b.unit.flash(48), 255);
        b.askDue("118 1", 54, 1, 9);
        b.askDue("127 54 49", 54, 2, 0, 0, 0);
        b.askDue("118 1", 54, 1, 9);
        b.askDue("118 2", 54, 2, 8, 7);
        Bench.due("the image", b.flash(48, 52), "9 8 7 255");
    }

    private static void withoutADownload() {
        Bench b = unlocked();
        b.askDue("127 54 36", 54, 1, 0);
        b.askDue("127 54 36", 54, 9, 0, 0);
        b.askDue("127 55 36", 55);
        b.askDue("116 8", 52, 1, 1);
        b.askDue("118 1", 54, 1, 4);
        b.askDue("127 54 36", 54, 1, 4);
        b.askDue("127 54 36", 54, 2, 4);
        b.askDue("119", 55);
        b.askDue("127 54 36", 54, 1, 4);
    }

    private static void theEnd() {
        Bench b = unlocked();
        b.askDue("116 8", 52, 1, 2);
        b.askDue("127 55 36", 55);
        b.askDue("118 1", 54, 1, 4);
        b.askDue("127 55 36", 55);
        b.askDue("118 2", 54, 2, 5);
        b.askDue("119", 55);
        b.askDue("127 55 36", 55);
    }

    private static void newDownloads() {
        Bench b = unlocked();
        b.askDue("116 8", 52, 1, 5);
        b.askDue("118 1", 54, 1, 255, 254);
        b.askDue("116 8", 52, 1, 9);
        Bench.due("bytes to come", b.unit.state(3), 9);
        b.askDue("127 54 115", 54, 2, 1);
        b.askDue("118 1", 54, 1, 3);
        Bench.due("the image", b.flash(48, 51), "3 254 255");
        b.askDue("127 52 34", 52, 0, 4);
        b.askDue("127 52 49", 52, 1, 33);
        Bench.due("bytes to come", b.unit.state(3), 8);
    }

    private static void theSlotThatRuns() {
        Bench b = unlocked();
        b.askDue("127 52 34", 52, 0, 8);
        b.release(1, 40, 41);
        b.unit.restart();
        b.unlock();
        b.askDue("127 52 34", 52, 1, 8);
        b.askDue("116 8", 52, 0, 2);
        b.askDue("118 1", 54, 1, 0, 0);
        Bench.due("the image of slot 0", b.flash(0, 4), "0 0 2 3");
    }

    private static void bitsAreOnlyCleared() {
        Bench b = unlocked();
        b.askDue("116 8", 52, 1, 32);
        b.askDue("118 1", 54, 1, 0xF0, 0xCC, 0xFF);
        b.askDue("116 8", 52, 1, 32);
        b.askDue("127 54 114", 54, 1, 0x70, 0x3C, 0x55);
        Bench.due("the image", b.flash(48, 52), "112 12 85 255");
        Bench.due("the bytes have come", b.unit.state(3), 29);
        b.askDue("118 1", 54, 1, 0x70, 0x3C, 0x55);
        b.askDue("118 2", 54, 2, 9);
        Bench.due("the image", b.flash(48, 53), "112 12 85 9 255");
        b.askDue("116 8", 52, 1, 3);
        b.askDue("127 54 114", 54, 1, 112, 12, 255);
        b.askDue("119", 55);
        b.askDue("116 8", 52, 1, 3);
        b.askDue("127 54 114", 54, 1, 113, 12, 85);
    }

    private static void blocksAndTheCheckedSlot() {
        Bench b = unlocked();
        b.check(1);
        Bench.due("the slot checked", b.unit.state(5), 1);
        b.askDue("127 52 34", 52, 0, 4);
        Bench.due("the slot checked", b.unit.state(5), 1);
        b.askDue("116 8", 52, 1, 4);
        Bench.due("the slot checked", b.unit.state(5), TwinLoader.NONE);
        b.check(1);
        b.askDue("118 1", 54, 1, 1, 2, 3, 4);
        Bench.due("the slot checked", b.unit.state(5), 1);
    }
}
