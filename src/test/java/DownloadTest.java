/** REQUESTS 52, 54 and 55: downloads. */
public final class DownloadTest {
    public static void main(String[] args) {
        slotsOutOfRange();
        sizesOutOfRange();
        theSlotThatRuns();
        inPlaceOfOneBefore();
        noSlotIsChecked();
        blocksWithoutADownload();
        blocksWhenAllCame();
        theLatestBlockAgain();
        noBlockCameYet();
        numbersOfBlocks();
        tooManyBytes();
        justAsManyBytes();
        numbersBeforeSizes();
        behindThoseThatCame();
        wholeImages();
        notAsItShouldBe();
        theyHaveComeAllTheSame();
        blocksLeaveTheCheckedSlot();
        endWithoutADownload();
        endBeforeAllCame();
        noneAnyMore();
        Bench.end();
    }

    private static void slotsOutOfRange() {
        Bench.says("52 s n: 49 if s isn't 0 or 1, or n isn't 1 .. 32;");
        for (int slot = 0; slot < 256; slot++) {
            Bench b = Bench.unlocked();
            b.askDue(slot == 0 ? "127 52 34" : slot == 1 ? "116 8" : "127 52 49", 52, slot, 4);
            Bench.due("bytes still to come", b.unit.state(3), slot == 1 ? 4 : TwinLoader.NONE);
        }
    }

    private static void sizesOutOfRange() {
        Bench.says("52 s n: 49 if s isn't 0 or 1, or n isn't 1 .. 32;");
        for (int size = 0; size < 256; size++) {
            boolean good = size >= 1 && size <= 32;
            Bench b = Bench.unlocked();
            b.askDue(good ? "116 8" : "127 52 49", 52, 1, size);
            Bench.due("bytes still to come", b.unit.state(3), good ? size : TwinLoader.NONE);
            b.askDue(good ? "127 52 34" : "127 52 49", 52, 0, size);
        }
    }

    private static void theSlotThatRuns() {
        Bench.says("34 if slot s runs; a download of n bytes to slot s has begun, in place of one before;");
        Bench b = Bench.unlocked();
        b.askDue("127 52 34", 52, 0, 8);
        Bench.due("the download", b.unit.state(3), TwinLoader.NONE);
        b = Bench.onSlotOne();
        b.askDue("127 52 34", 52, 1, 8);
        b.askDue("116 8", 52, 0, 2);
        b.askDue("118 1", 54, 1, 0, 0);
        Bench.due("the image of slot 0", b.flash(0, 4), "0 0 2 3");
        Bench.due("the image of slot 1", b.flash(48, 51), "5 6 255");
    }

    private static void inPlaceOfOneBefore() {
        Bench.says("34 if slot s runs; a download of n bytes to slot s has begun, in place of one before;");
        Bench b = Bench.unlocked();
        b.askDue("116 8", 52, 1, 5);
        b.askDue("118 1", 54, 1, 255, 254);
        b.askDue("116 8", 52, 1, 9);
        Bench.due("bytes still to come", b.unit.state(3), 9);
        b.askDue("127 54 115", 54, 2, 1);
        b.askDue("118 1", 54, 1, 3);
        Bench.due("the image", b.flash(48, 51), "3 254 255");
        b.askDue("127 52 34", 52, 0, 4);
        b.askDue("127 52 49", 52, 1, 33);
        b.askDue("127 52 49", 52, 1, 0);
        Bench.due("bytes still to come after refused ones", b.unit.state(3), 8);
    }

    private static void noSlotIsChecked() {
        Bench.says("no slot is checked any more; 116 8.");
        for (int slot = 0; slot < 2; slot++) {
            Bench b = Bench.unlocked();
            b.check(slot);
            b.askDue("127 52 34", 52, 0, 4);
            b.askDue("127 52 49", 52, 1, 33);
            Bench.due("the slot that is checked", b.unit.state(5), slot);
            b.askDue("116 8", 52, 1, 4);
            Bench.due("the slot that is checked after 52", b.unit.state(5), TwinLoader.NONE);
        }
    }

    private static void blocksWithoutADownload() {
        Bench.says("54 c and 1 to 8 bytes: 36 if there is no download, or all its bytes came;");
        Bench b = Bench.unlocked();
        b.askDue("127 54 36", 54, 1, 0);
        b.askDue("127 54 36", 54, 0, 0);
        b.askDue("127 54 36", 54, 9, 0, 0, 0, 0, 0, 0, 0, 0);
        Bench.due("the flash", b.flash(0, 3) + " " + b.flash(48, 51), "0 1 2 255 255 255");
        b.load(1, 7);
        b.askDue("127 54 36", 54, 1, 7);
        b.askDue("127 54 36", 54, 2, 7);
    }

    private static void blocksWhenAllCame() {
        Bench.says("54 c and 1 to 8 bytes: 36 if there is no download, or all its bytes came;");
        Bench b = Bench.unlocked();
        b.askDue("116 8", 52, 1, 1);
        b.askDue("118 1", 54, 1, 4);
        b.askDue("127 54 36", 54, 1, 4);
        b.askDue("127 54 36", 54, 2, 4);
        b.askDue("127 54 36", 54, 9, 4);
        Bench.due("the image", b.flash(48, 51), "4 255 255");
        Bench.due("bytes still to come", b.unit.state(3), 0);
    }

    private static void theLatestBlockAgain() {
        Bench.says("118 c, and nothing else, if a block came and c is the number of the latest one;");
        Bench b = Bench.unlocked();
        b.askDue("116 8", 52, 1, 10);
        b.askDue("118 1", 54, 1, 1, 2, 3);
        b.askDue("118 1", 54, 1, 0, 0, 0, 0, 0, 0, 0, 0);
        Bench.due("bytes still to come", b.unit.state(3), 7);
        Bench.due("the image", b.flash(48, 56), "1 2 3 255 255 255 255 255");
        b.askDue("118 2", 54, 2, 4);
        b.askDue("118 2", 54, 2, 0, 0, 0, 0, 0, 0, 0, 0);
        b.askDue("127 54 115", 54, 1, 4);
        b.unit.cut(0);
        b.askDue("118 2", 54, 2, 0);
        Bench.due("whether the cut is still ordered", b.unit.state(4), 1);
        Bench.due("the image", b.flash(48, 53), "1 2 3 4 255");
    }

    private static void noBlockCameYet() {
        Bench.says("118 c, and nothing else, if a block came and c is the number of the latest one;");
        Bench b = Bench.unlocked();
        b.askDue("116 8", 52, 1, 10);
        b.askDue("127 54 115", 54, 0, 5);
        b.askDue("118 1", 54, 1, 5);
        b.askDue("116 8", 52, 1, 10);
        b.askDue("118 1", 54, 1, 4, 9);
        Bench.due("the first block of a new download is written", b.flash(48, 51), "4 9 255");
    }

    private static void numbersOfBlocks() {
        Bench.says("115 if c isn't 1 more than the number of blocks that came, modulo 256;");
        for (int number = 0; number < 256; number++) {
            Bench b = Bench.unlocked();
            b.askDue("116 8", 52, 1, 10);
            b.askDue(number == 1 ? "118 1" : "127 54 115", 54, number, 0);
            Bench.due("bytes still to come", b.unit.state(3), number == 1 ? 9 : 10);
            b = Bench.unlocked();
            b.askDue("116 8", 52, 1, 10);
            b.askDue("118 1", 54, 1, 77);
            b.askDue(number == 1 || number == 2 ? "118 " + number : "127 54 115", 54, number, 7);
            Bench.due("the image", b.flash(48, 51), number == 2 ? "77 7 255" : "77 255 255");
        }
    }

    private static void tooManyBytes() {
        Bench.says("49 if there are more bytes than are still to come;");
        for (int size = 1; size <= 7; size++) {
            Bench b = Bench.unlocked();
            b.askDue("116 8", 52, 1, size);
            int[] request = new int[3 + size];
            request[0] = 54;
            request[1] = 1;
            b.askDue("127 54 49", request);
            Bench.due("bytes still to come", b.unit.state(3), size);
            Bench.due("the image", b.flash(48, 51), "255 255 255");
            b.askDue("118 1", java.util.Arrays.copyOf(request, 2 + size));
        }
    }

    private static void justAsManyBytes() {
        Bench.says("49 if there are more bytes than are still to come;");
        Bench b = Bench.unlocked();
        b.askDue("116 8", 52, 1, 12);
        b.askDue("118 1", 54, 1, 1, 2, 3, 4, 5, 6, 7, 8);
        b.askDue("127 54 49", 54, 2, 9, 10, 11, 12, 13);
        b.askDue("118 2", 54, 2, 9, 10, 11, 12);
        Bench.due("bytes still to come", b.unit.state(3), 0);
        Bench.due("the image", b.flash(48, 61), "1 2 3 4 5 6 7 8 9 10 11 12 255");
    }

    private static void numbersBeforeSizes() {
        Bench.says("115 if c isn't 1 more than the number of blocks that came, modulo 256;");
        Bench b = Bench.unlocked();
        b.askDue("116 8", 52, 1, 3);
        b.askDue("127 54 115", 54, 2, 0, 0, 0, 0);
        b.askDue("118 1", 54, 1, 9);
        b.askDue("127 54 115", 54, 3, 0, 0, 0);
        b.askDue("118 1", 54, 1, 0, 0, 0);
    }

    private static void behindThoseThatCame() {
        Bench.says("they are written into the image of the slot, behind those that came before, and have come;");
        Bench b = Bench.unlocked();
        b.askDue("116 8", 52, 1, 32);
        for (int block = 1; block <= 8; block++) {
            b.askDue("118 " + block, 54, block, 10 * block);
            Bench.due("bytes still to come", b.unit.state(3), 32 - block);
        }
        b.askDue("118 9", 54, 9, 1, 2, 3, 4, 5, 6, 7, 8);
        b.askDue("118 10", 54, 10, 9, 10, 11, 12, 13, 14, 15);
        Bench.due("bytes still to come", b.unit.state(3), 9);
        Bench.due("the image", b.flash(48, 72),
                "10 20 30 40 50 60 70 80 1 2 3 4 5 6 7 8 9 10 11 12 13 14 15 255");
    }

    private static void wholeImages() {
        Bench.says("they are written into the image of the slot, behind those that came before, and have come;");
        for (int size = 1; size <= 32; size++) {
            Bench b = Bench.unlocked();
            int[] image = new int[size];
            for (int k = 0; k < size; k++) {
                image[k] = 7 * k + size & 255;
            }
            b.load(1, image);
            Bench.due("the image", b.flash(48, 48 + size), Bench.text(image));
            Bench.due("what is behind it", b.flash(48 + size, 96), Bench.repeated(255, 48 - size));
            Bench.due("slot 0", b.flash(0, 4), "0 1 2 3");
        }
    }

    private static void notAsItShouldBe() {
        Bench.says("114 if one of them isn't there now as it should be; else 118 c.");
        for (int bad = 0; bad < 8; bad++) {
            Bench b = Bench.unlocked();
            int[] request = {54, 1, 255, 255, 255, 255, 255, 255, 255, 255};
            request[2 + bad] = 254;
            b.askDue("116 8", 52, 1, 8);
            b.askDue("118 1", request);
            b.askDue("116 8", 52, 1, 8);
            b.askDue("118 1", request);
            request[2 + bad] = 255;
            b.askDue("116 8", 52, 1, 8);
            b.askDue("127 54 114", request);
            request[2 + bad] = 252;
            b.askDue("116 8", 52, 1, 8);
            b.askDue("118 1", request);
        }
    }

    private static void theyHaveComeAllTheSame() {
        Bench.says("114 if one of them isn't there now as it should be; else 118 c.");
        Bench b = Bench.unlocked();
        b.askDue("116 8", 52, 1, 32);
        b.askDue("118 1", 54, 1, 0xF0, 0xCC, 0xFF);
        b.askDue("116 8", 52, 1, 32);
        b.askDue("127 54 114", 54, 1, 0x70, 0x3C, 0x55);
        Bench.due("the image", b.flash(48, 52), "112 12 85 255");
        Bench.due("bytes still to come", b.unit.state(3), 29);
        b.askDue("118 1", 54, 1, 0x70, 0x3C, 0x55);
        b.askDue("118 2", 54, 2, 9);
        Bench.due("the image", b.flash(48, 53), "112 12 85 9 255");
        b.askDue("116 8", 52, 1, 3);
        b.askDue("127 54 114", 54, 1, 112, 12, 255);
        b.askDue("119", 55);
    }

    /** The document says of 49 and 52 that they forget it, and not so of 54 and 55. */
    private static void blocksLeaveTheCheckedSlot() {
        Bench.says("they are written into the image of the slot, behind those that came before, and have come;");
        Bench b = Bench.unlocked();
        b.askDue("116 8", 52, 1, 4);
        b.check(1);
        b.askDue("118 1", 54, 1, 1, 2, 3, 4);
        Bench.due("the slot that is checked", b.unit.state(5), 1);
        b.askDue("119", 55);
        Bench.due("the slot that is checked", b.unit.state(5), 1);
    }

    private static void endWithoutADownload() {
        Bench.says("55: 36 if there is no download, or bytes are still to come;");
        Bench b = Bench.unlocked();
        b.askDue("127 55 36", 55);
        b.load(1, 7);
        b.askDue("127 55 36", 55);
    }

    private static void endBeforeAllCame() {
        Bench.says("55: 36 if there is no download, or bytes are still to come;");
        Bench b = Bench.unlocked();
        b.askDue("116 8", 52, 1, 2);
        b.askDue("127 55 36", 55);
        b.askDue("118 1", 54, 1, 4);
        b.askDue("127 55 36", 55);
        Bench.due("bytes still to come", b.unit.state(3), 1);
        b.askDue("118 2", 54, 2, 5);
        b.askDue("119", 55);
    }

    private static void noneAnyMore() {
        Bench.says("there is none any more; 119.");
        Bench b = Bench.unlocked();
        b.load(1, 1, 2, 3);
        Bench.due("the download", b.unit.state(3), TwinLoader.NONE);
        b.askDue("127 54 36", 54, 2, 4);
        Bench.due("the image", b.flash(48, 52), "1 2 3 255");
        b.askDue("116 8", 52, 1, 3);
        b.askDue("118 1", 54, 1, 1, 2, 3);
        b.askDue("119", 55);
    }
}
