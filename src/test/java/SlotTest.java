/** Promise 2: erasing, checking and releasing slots, and which one boots. */
public final class SlotTest {
    public static void main(String[] args) {
        erasing();
        erasingTheSlotThatRuns();
        checking();
        checkingForgetsOnlyItsOwnSlot();
        releasing();
        releasingUnchecked();
        releasingWithoutErasing();
        serials();
        serialsWrapAround();
        slotsAlike();
        badSlotsDoNotRun();
        sums();
        Bench.end();
    }

    private static Bench unlocked() {
        Bench b = new Bench();
        b.unlock();
        return b;
    }

    private static void erasing() {
        Bench b = unlocked();
        b.release(1, 1, 2, 3, 4, 5, 6, 7, 8, 9, 10, 11, 12, 13, 14, 15, 16, 17, 18, 19, 20);
        Bench.due("the slot checked", b.unit.state(5), 1);
        String slotZero = b.flash(0, 48);
        b.askDue("113 1 1", 49, 1, 1, 1);
        Bench.due("slot 1", b.flash(48, 96), Bench.repeated(255, 48));
        Bench.due("slot 0", b.flash(0, 48), slotZero);
        Bench.due("the slot checked", b.unit.state(5), TwinLoader.NONE);
        b.askDue("116 8", 52, 1, 4);
        b.askDue("113 1 1", 49, 1, 1, 1);
        Bench.due("the download goes on", b.unit.state(3), 4);
        b.askDue("118 1", 54, 1, 5);
    }

    private static void erasingTheSlotThatRuns() {
        Bench b = unlocked();
        b.check(1);
        b.askDue("127 49 34", 49, 1, 1, 0);
        Bench.due("slot 0", b.flash(0, 4), "0 1 2 3");
        Bench.due("the slot checked", b.unit.state(5), 1);
        b.release(1, 60);
        b.unit.restart();
        b.unlock();
        b.askDue("127 49 34", 49, 1, 1, 1);
        b.askDue("113 1 1", 49, 1, 1, 0);
        Bench.due("slot 0", b.flash(0, 48), Bench.repeated(255, 48));
        Bench.due("slot 1", b.unit.flash(48), 60);
    }

    private static void checking() {
        Bench b = unlocked();
        b.askDue("113 1 2 1", 49, 1, 2, 0, Bench.FIRST_SUM >> 8, Bench.FIRST_SUM & 255);
        Bench.due("the slot checked", b.unit.state(5), 0);
        b.askDue("113 1 2 0", 49, 1, 2, 0, Bench.FIRST_SUM & 255, Bench.FIRST_SUM >> 8);
        Bench.due("the slot checked", b.unit.state(5), TwinLoader.NONE);
        b.check(1);
        Bench.due("the slot checked", b.unit.state(5), 1);
        int sum = b.sumOfSlot(1);
        b.askDue("113 1 2 0", 49, 1, 2, 1, sum >> 8, sum + 1 & 255);
        Bench.due("the slot checked", b.unit.state(5), TwinLoader.NONE);
        b.askDue("113 1 2 0", 49, 1, 2, 1, (sum >> 8) + 1 & 255, sum & 255);
    }

    private static void checkingForgetsOnlyItsOwnSlot() {
        Bench b = unlocked();
        b.check(1);
        b.askDue("113 1 2 0", 49, 1, 2, 0, 0, 0);
        Bench.due("the slot checked", b.unit.state(5), 1);
        b.check(0);
        Bench.due("the slot checked", b.unit.state(5), 0);
        b.askDue("113 1 2 0", 49, 1, 2, 1, 0, 0);
        Bench.due("the slot checked", b.unit.state(5), 0);
        b.askDue("127 49 34", 49, 1, 3, 1);
    }

    private static void releasing() {
        Bench b = unlocked();
        b.release(1, 9, 8, 7);
        int sum = b.sumOfSlot(1);
        Bench.due("the header", b.flash(80, 96),
                "0 2 " + (sum >> 8) + " " + (sum & 255) + " " + Bench.repeated(255, 12));
        Bench.due("the slot that runs", b.unit.state(0), 0);
        Bench.due("the slot checked", b.unit.state(5), 1);
        b.askDue("98 0 0", 34, 0);
        b.askDue("81 1", 17, 1);
        Bench.due("the slot that runs", b.unit.state(0), 1);
        b.askDue("98 0 1", 34, 0);
    }

    private static void releasingUnchecked() {
        Bench b = unlocked();
        b.load(1, 9, 8, 7);
        b.askDue("127 49 34", 49, 1, 3, 1);
        b.check(0);
        b.askDue("127 49 34", 49, 1, 3, 1);
        b.askDue("127 49 34", 49, 1, 3, 0);
        Bench.due("the header", b.flash(80, 84), "255 255 255 255");
        Bench.due("the header of slot 0", b.flash(32, 34), "0 1");
    }

    private static void releasingWithoutErasing() {
        Bench b = unlocked();
        b.release(1, 9, 8, 7);
        int old = b.sumOfSlot(1);
        b.askDue("116 8", 52, 1, 1);
        b.askDue("118 1", 54, 1, 1);
        b.check(1);
        int sum = b.sumOfSlot(1) & old;
        b.askDue("113 1 3", 49, 1, 3, 1);
        Bench.due("the header", b.flash(80, 84), "0 2 " + (sum >> 8) + " " + (sum & 255));
        b.unit.restart();
        Bench.due("the slot that runs", b.unit.state(0), 0);
    }

    private static void serials() {
        Bench b = new Bench();
        for (int serial = 2; serial <= 5; serial++) {
            int slot = (serial + 1) % 2;
            b.unlock();
            b.release(slot, serial, 100);
            Bench.due("the serial", b.unit.flash(48 * slot + 33), serial);
            b.unit.restart();
            Bench.due("the slot that runs", b.unit.state(0), slot);
        }
        b = unlocked();
        b.release(1, 5, 6);
        b.release(1, 7, 8);
        Bench.due("the serial of a slot released twice", b.unit.flash(81), 2);
        b.askDue("113 1 3", 49, 1, 3, 1);
        Bench.due("the serial 3 written over 2", b.unit.flash(81), 2);
    }

    /** Only a torn erasing of a good slot's header makes a serial so great: its mark and sum stay. */
    private static Bench withSerial255() {
        Bench b = unlocked();
        b.release(1, 5, 6);
        b.unit.restart();
        b.unlock();
        b.unit.cut(0x0000FF00);
        b.askDue("", 49, 1, 1, 0);
        Bench.due("the header of slot 0", b.flash(32, 36), "0 255 35 179");
        Bench.due("the slot that runs", b.unit.state(0), 0);
        return b;
    }

    private static void serialsWrapAround() {
        Bench b = withSerial255();
        b.unlock();
        b.release(1, 5, 6);
        Bench.due("the serial after 255", b.unit.flash(81), 0);
        b.unit.restart();
        Bench.due("255 is greater than 0", b.unit.state(0), 0);
    }

    private static void slotsAlike() {
        Bench b = unlocked();
        b.release(1, 5, 6);
        b.unit.restart();
        b.unlock();
        b.release(0, 7, 8);
        b.unit.restart();
        Bench.due("the slot with serial 3", b.unit.state(0), 0);
        b.unlock();
        b.unit.cut(0x00000100);
        b.askDue("", 49, 1, 1, 1);
        Bench.due("the header of slot 1", b.flash(80, 82), "0 3");
        Bench.due("slot 0 of two alike", b.unit.state(0), 0);
        b.unlock();
        b.unit.cut(0x00000400);
        b.askDue("", 49, 1, 1, 1);
        Bench.due("the header of slot 1", b.flash(80, 82), "0 7");
        Bench.due("slot 1 with a greater serial", b.unit.state(0), 1);
    }

    private static void badSlotsDoNotRun() {
        for (int mark = 0; mark < 256; mark++) {
            Bench b = unlocked();
            b.release(1, 5, 6);
            b.unit.cut(mark);
            b.askDue("", 49, 1, 1, 1);
            Bench.due("the mark", b.unit.flash(80), mark);
            Bench.due("the slot that runs with mark " + mark, b.unit.state(0), mark == 0 ? 1 : 0);
        }
        for (int bit = 0; bit < 16; bit++) {
            Bench b = unlocked();
            b.release(1, 5, 6);
            int old = b.unit.word(80);
            b.unit.cut(0x10000 << bit);
            b.askDue("", 49, 1, 1, 1);
            boolean same = b.unit.word(80) == old;
            Bench.due("the slot that runs", b.unit.state(0), same ? 1 : 0);
        }
        Bench b = unlocked();
        b.release(1, 5, 6);
        b.askDue("116 8", 52, 1, 1);
        b.askDue("118 1", 54, 1, 4);
        b.unit.restart();
        Bench.due("the slot that runs when the image was changed", b.unit.state(0), 0);
    }

    private static void sums() {
        for (int seed = 1; seed < 40; seed++) {
            Bench b = unlocked();
            int[] image = new int[32];
            for (int k = 0; k < 32; k++) {
                image[k] = seed * (k + 3) * (k + seed) >> 2 & 255;
            }
            b.load(1, image);
            int sum = Bench.sum(image);
            b.askDue("113 1 2 1", 49, 1, 2, 1, sum >> 8, sum & 255);
            b.askDue("113 1 3", 49, 1, 3, 1);
            Bench.due("the sum in the header", b.unit.word(80) & 0xFFFF, sum);
        }
    }
}
