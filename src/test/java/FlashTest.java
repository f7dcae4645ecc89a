/** The flash with its sectors, slots and sums; promises 8 and 9. */
public final class FlashTest {
    public static void main(String[] args) {
        bytesAndSectors();
        writing();
        erasing();
        slotOne();
        slotZero();
        sumsOfKnownImages();
        sumsOfSingleBits();
        goodByItsMark();
        goodByItsSum();
        goodByItsImage();
        singleBytes();
        words();
        wordsThatAreNotThere();
        Bench.end();
    }

    private static int[] filled(int value) {
        int[] image = new int[32];
        java.util.Arrays.fill(image, value);
        return image;
    }

    private static void bytesAndSectors() {
        Bench.says("FLASH: 96 bytes (0 .. 255), in 6 SECTORS of 16.");
        Bench b = new Bench();
        for (int at = 0; at < 96; at++) {
            int value = b.unit.flash(at);
            Bench.due("byte " + at + " is 0 .. 255", value >= 0 && value <= 255, true);
        }
        Bench.due("byte 96", b.unit.flash(96), TwinLoader.NONE);
        b = Bench.unlocked();
        b.release(1, filled(0));
        b.unit.cut(-1);
        b.askDue("", 49, 1, 1, 1);
        Bench.due("the sector that is erased", b.flash(80, 96), Bench.repeated(255, 16));
        Bench.due("the sectors before it", b.flash(48, 80), Bench.repeated(0, 32));
    }

    /** Every byte that can be there, with 32 others written over it. */
    private static void writing() {
        Bench.says("WRITING bytes clears, in each, those of its bits (0 the lowest, of 8) that are 0"
                + " in the byte that is written;");
        for (int old = 0; old < 256; old++) {
            Bench b = Bench.unlocked();
            b.load(1, filled(old));
            b.ask(52, 1, 32);
            int[] want = new int[32];
            for (int block = 1; block <= 4; block++) {
                int[] request = new int[10];
                request[0] = 54;
                request[1] = block;
                for (int k = 0; k < 8; k++) {
                    int value = block == 1 ? 1 << k : block == 2 ? 255 - (1 << k) : 37 * k + 91 * block + old & 255;
                    request[2 + k] = value;
                    want[8 * (block - 1) + k] = old & value;
                }
                b.ask(request);
            }
            Bench.due("what is there after writing over " + old, b.flash(48, 80), Bench.text(want));
        }
    }

    private static void erasing() {
        Bench.says("ERASING a sector sets all its bits.");
        Bench b = Bench.unlocked();
        b.release(1, filled(0));
        Bench.due("the image", b.flash(48, 80), Bench.repeated(0, 32));
        b.askDue("113 1 1", 49, 1, 1, 1);
        Bench.due("all sectors of slot 1", b.flash(48, 96), Bench.repeated(255, 48));
        b.askDue("113 1 1", 49, 1, 1, 1);
        Bench.due("they, erased once more", b.flash(48, 96), Bench.repeated(255, 48));
    }

    private static void slotOne() {
        Bench.says("SLOT s (0, 1) has sectors 3 s to 3 s + 2: the first two are its IMAGE, 32 bytes;"
                + " the third one its HEADER: byte 0 the MARK, 1 the SERIAL, 2 and 3 the SUM (high byte first).");
        Bench b = Bench.unlocked();
        String slotZero = b.flash(0, 48);
        int[] image = new int[32];
        for (int k = 0; k < 32; k++) {
            image[k] = 100 + k;
        }
        b.release(1, image);
        int sum = Bench.sum(image);
        Bench.due("slot 0", b.flash(0, 48), slotZero);
        Bench.due("the image of slot 1", b.flash(48, 80), Bench.text(image));
        Bench.due("the header of slot 1", b.flash(80, 96),
                "0 2 " + sum / 256 + " " + sum % 256 + " " + Bench.repeated(255, 12));
    }

    private static void slotZero() {
        Bench.says("SLOT s (0, 1) has sectors 3 s to 3 s + 2: the first two are its IMAGE, 32 bytes;"
                + " the third one its HEADER: byte 0 the MARK, 1 the SERIAL, 2 and 3 the SUM (high byte first).");
        Bench b = Bench.onSlotOne();
        String slotOne = b.flash(48, 96);
        int[] image = new int[32];
        for (int k = 0; k < 32; k++) {
            image[k] = 200 - k;
        }
        b.release(0, image);
        int sum = Bench.sum(image);
        Bench.due("the image of slot 0", b.flash(0, 32), Bench.text(image));
        Bench.due("the header of slot 0", b.flash(32, 48),
                "0 3 " + sum / 256 + " " + sum % 256 + " " + Bench.repeated(255, 12));
        Bench.due("slot 1", b.flash(48, 96), slotOne);
    }

    private static void sumDue(int sum, int... image) {
        Bench b = Bench.unlocked();
        b.load(1, image);
        b.askDue("113 1 2 1", 49, 1, 2, 1, sum / 256, sum % 256);
        b.askDue("113 1 3", 49, 1, 3, 1);
        Bench.due("the sum in the header", b.unit.word(80) & 0xFFFF, sum);
    }

    /** Numbers worked out by another program. */
    private static void sumsOfKnownImages() {
        Bench.says("The SUM of an image: beginning with 65535, for each byte: exclusive or with the byte"
                + " times 256; then eight times: shifted to the left by one, modulo 65536, and, if the highest"
                + " of the 16 bits was 1 before, exclusive or with 4129.");
        int[] counted = new int[32];
        for (int k = 0; k < 32; k++) {
            counted[k] = k;
        }
        sumDue(0x23B3, counted);
        sumDue(0x75F8, filled(255));
        sumDue(0xF14C, filled(0));
        int[] digits = new int[32];
        for (int k = 0; k < 9; k++) {
            digits[k] = '1' + k;
        }
        sumDue(0x1D7A, digits);
    }

    private static void sumsOfSingleBits() {
        Bench.says("The SUM of an image: beginning with 65535, for each byte: exclusive or with the byte"
                + " times 256; then eight times: shifted to the left by one, modulo 65536, and, if the highest"
                + " of the 16 bits was 1 before, exclusive or with 4129.");
        for (int bit = 0; bit < 256; bit++) {
            int[] image = filled(255);
            image[bit / 8] ^= 1 << bit % 8;
            sumDue(Bench.sum(image), image);
        }
    }

    /** A torn erasing of the header sets just the bits that the number has. */
    private static void goodByItsMark() {
        Bench.says("A slot is GOOD if its mark is 0");
        for (int mark = 0; mark < 256; mark++) {
            Bench b = Bench.unlocked();
            b.release(1, 5, 6);
            b.unit.cut(mark);
            b.askDue("", 49, 1, 1, 1);
            Bench.due("the mark", b.unit.flash(80), mark);
            Bench.due("the slot that runs, slot 1 having mark " + mark, b.unit.state(0), mark == 0 ? 1 : 0);
        }
    }

    private static void goodByItsSum() {
        Bench.says("and the sum of its image is the one in its header.");
        for (int bit = 0; bit < 16; bit++) {
            Bench b = Bench.unlocked();
            b.release(1, 5, 6);
            int old = b.unit.word(80);
            b.unit.cut(0x10000 << bit);
            b.askDue("", 49, 1, 1, 1);
            boolean same = b.unit.word(80) == old;
            Bench.due("the slot that runs, slot 1 having header " + b.flash(80, 84), b.unit.state(0), same ? 1 : 0);
        }
    }

    private static void goodByItsImage() {
        Bench.says("and the sum of its image is the one in its header.");
        for (int last = 0; last <= 31; last += 31) {
            Bench b = Bench.unlocked();
            b.release(1, filled(255));
            b.askDue("116 8", 52, 1, 32);
            int[] skipped = {54, 0, 255, 255, 255, 255, 255, 255, 255, 255};
            for (int block = 1; block <= last / 8; block++) {
                skipped[1] = block;
                b.askDue("118 " + block, skipped);
            }
            int[] request = skipped.clone();
            request[1] = last / 8 + 1;
            request[2 + last % 8] = 254;
            b.askDue("118 " + request[1], request);
            b.unit.restart();
            Bench.due("the slot that runs, byte " + last + " having lost a bit", b.unit.state(0), 0);
        }
    }

    private static void singleBytes() {
        Bench.says("A byte of the flash; NONE if there is none.");
        Bench b = new Bench();
        Bench.due("flash(0)", b.unit.flash(0), 0);
        Bench.due("flash(31)", b.unit.flash(31), 31);
        Bench.due("flash(35)", b.unit.flash(35), 179);
        Bench.due("flash(95)", b.unit.flash(95), 255);
        int[] wrong = {-1, -2, -96, 96, 97, 192, 255, 256, Integer.MIN_VALUE, Integer.MAX_VALUE};
        for (int at : wrong) {
            Bench.due("flash(" + at + ")", b.unit.flash(at), TwinLoader.NONE);
        }
    }

    private static void words() {
        Bench.says("The bytes of the flash from one on, four as one number, the first one in the highest 8 bits;");
        Bench b = new Bench();
        Bench.due("word(0)", b.unit.word(0), 0x00010203);
        Bench.due("word(1)", b.unit.word(1), 0x01020304);
        Bench.due("word(29)", b.unit.word(29), 0x1D1E1F00);
        Bench.due("word(32)", b.unit.word(32), 0x000123B3);
        Bench.due("word(34)", b.unit.word(34), 0x23B3FFFF);
        Bench.due("word(92), the last one", b.unit.word(92), -1);
        b.unlock();
        b.load(1, 0x80, 0, 0, 1, 0x7F, 0xFF);
        Bench.due("word(48)", b.unit.word(48), 0x80000001);
        Bench.due("word(49)", b.unit.word(49), 0x0000017F);
        Bench.due("word(50)", b.unit.word(50), 0x00017FFF);
        Bench.due("word(52)", b.unit.word(52), 0x7FFFFFFF);
    }

    private static void wordsThatAreNotThere() {
        Bench.says("0 if they aren't all there.");
        Bench b = new Bench();
        int[] wrong = {-1, -2, -3, -4, 93, 94, 95, 96, 97, Integer.MIN_VALUE, Integer.MAX_VALUE,
            Integer.MAX_VALUE - 2, Integer.MAX_VALUE - 3};
        for (int at : wrong) {
            Bench.due("word(" + at + ")", b.unit.word(at), 0);
        }
    }
}
