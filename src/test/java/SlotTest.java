/** REQUESTS 49: erasing, checking and releasing slots. */
public final class SlotTest {
    public static void main(String[] args) {
        routinesOutOfRange();
        slotsOutOfRange();
        rangeBeforeTheSlotThatRuns();
        erasingTheSlotThatRuns();
        erasingForgetsTheCheckedSlot();
        erasing();
        erasingLeavesADownload();
        checkingSums();
        checkingTheSlotThatRuns();
        checkedAndNoOther();
        notCheckedAnyMore();
        checkingForgetsOnlyItsOwnSlot();
        releasingTheSlotThatRuns();
        releasingUnchecked();
        releasing();
        serialsOfGoodSlotsOnly();
        theGreatestSerialIsItsOwn();
        serialsModulo();
        writtenNotErased();
        itRunsByTheNextBooting();
        Bench.end();
    }

    private static void routinesOutOfRange() {
        Bench.says("49 1 r s, and two bytes more if r is 2: 49 if r isn't 1 .. 3, or s isn't 0 or 1.");
        for (int routine = 0; routine < 256; routine++) {
            Bench b = Bench.unlocked();
            String answer = routine == 2 ? b.ask(49, 1, 2, 1, 0, 0) : b.ask(49, 1, routine, 1);
            boolean refused = answer.equals("127 49 49");
            Bench.due("49 1 " + routine + " 1 is refused by 49", refused, routine < 1 || routine > 3);
        }
    }

    private static void slotsOutOfRange() {
        Bench.says("49 1 r s, and two bytes more if r is 2: 49 if r isn't 1 .. 3, or s isn't 0 or 1.");
        for (int slot = 0; slot < 256; slot++) {
            Bench b = Bench.unlocked();
            b.check(1);
            Bench.due("49 1 3 " + slot + " is refused by 49", b.ask(49, 1, 3, slot).equals("127 49 49"), slot > 1);
            Bench.due("49 1 2 " + slot + " is refused by 49", b.ask(49, 1, 2, slot, 0, 0).equals("127 49 49"), slot > 1);
            Bench.due("49 1 1 " + slot + " is refused by 49", b.ask(49, 1, 1, slot).equals("127 49 49"), slot > 1);
        }
    }

    private static void rangeBeforeTheSlotThatRuns() {
        Bench.says("49 1 r s, and two bytes more if r is 2: 49 if r isn't 1 .. 3, or s isn't 0 or 1.");
        Bench b = Bench.unlocked();
        b.askDue("127 49 49", 49, 1, 0, 0);
        b.askDue("127 49 49", 49, 1, 4, 0);
        b.askDue("127 49 34", 49, 1, 1, 0);
        b.askDue("127 49 34", 49, 1, 3, 0);
    }

    private static void erasingTheSlotThatRuns() {
        Bench.says("r 1: 34 if slot s runs;");
        Bench b = Bench.unlocked();
        b.check(1);
        String slotZero = b.flash(0, 48);
        b.askDue("127 49 34", 49, 1, 1, 0);
        Bench.due("slot 0", b.flash(0, 48), slotZero);
        Bench.due("the slot that is checked", b.unit.state(5), 1);
        b = Bench.onSlotOne();
        b.askDue("127 49 34", 49, 1, 1, 1);
        Bench.due("slot 1", b.flash(48, 51), "5 6 255");
        b.askDue("113 1 1", 49, 1, 1, 0);
        Bench.due("slot 0", b.flash(0, 48), Bench.repeated(255, 48));
    }

    private static void erasingForgetsTheCheckedSlot() {
        Bench.says("no slot is checked any more; its sectors are erased,"
                + " first the third one, then the first one, then the second one; 113 1 1.");
        for (int slot = 0; slot < 2; slot++) {
            Bench b = Bench.unlocked();
            b.check(slot);
            Bench.due("the slot that is checked", b.unit.state(5), slot);
            b.askDue("113 1 1", 49, 1, 1, 1);
            Bench.due("the slot that is checked after erasing slot 1", b.unit.state(5), TwinLoader.NONE);
            b.askDue("127 49 34", 49, 1, 3, 1);
        }
    }

    private static void erasing() {
        Bench.says("no slot is checked any more; its sectors are erased,"
                + " first the third one, then the first one, then the second one; 113 1 1.");
        Bench b = Bench.unlocked();
        int[] image = new int[32];
        b.release(1, image);
        String slotZero = b.flash(0, 48);
        b.unit.cut(-1);
        b.askDue("", 49, 1, 1, 1);
        Bench.due("the third sector, which is the first one to go", b.flash(80, 84), Bench.repeated(255, 4));
        Bench.due("the first and the second one", b.flash(48, 80), Bench.repeated(0, 32));
        b.unlock();
        b.askDue("113 1 1", 49, 1, 1, 1);
        Bench.due("slot 1", b.flash(48, 96), Bench.repeated(255, 48));
        Bench.due("slot 0", b.flash(0, 48), slotZero);
    }

    private static void erasingLeavesADownload() {
        Bench.says("no slot is checked any more; its sectors are erased,"
                + " first the third one, then the first one, then the second one; 113 1 1.");
        Bench b = Bench.unlocked();
        b.askDue("116 8", 52, 1, 4);
        b.askDue("118 1", 54, 1, 5);
        b.askDue("113 1 1", 49, 1, 1, 1);
        Bench.due("bytes still to come", b.unit.state(3), 3);
        b.askDue("118 2", 54, 2, 6);
        Bench.due("the image", b.flash(48, 51), "255 6 255");
    }

    private static void checkingSums() {
        Bench.says("r 2, h l: 113 1 2 c: c is 1 if the sum of the image of slot s is 256 h + l, else 0;");
        Bench b = Bench.unlocked();
        b.askDue("113 1 2 1", 49, 1, 2, 1, 0x75, 0xF8);
        b.askDue("113 1 2 0", 49, 1, 2, 1, 0xF8, 0x75);
        for (int bit = 0; bit < 16; bit++) {
            int sum = 0x75F8 ^ 1 << bit;
            b.askDue("113 1 2 0", 49, 1, 2, 1, sum / 256, sum % 256);
        }
        b = Bench.unlocked();
        b.load(1, 9, 8, 7);
        int sum = b.sumOfSlot(1);
        b.askDue("113 1 2 0", 49, 1, 2, 1, 0x75, 0xF8);
        b.askDue("113 1 2 1", 49, 1, 2, 1, sum / 256, sum % 256);
        b.askDue("113 1 2 0", 49, 1, 2, 0, sum / 256, sum % 256);
    }

    private static void checkingTheSlotThatRuns() {
        Bench.says("r 2, h l: 113 1 2 c: c is 1 if the sum of the image of slot s is 256 h + l, else 0;");
        Bench b = Bench.unlocked();
        b.askDue("113 1 2 1", 49, 1, 2, 0, 35, 179);
        Bench.due("the slot that is checked", b.unit.state(5), 0);
        b.askDue("113 1 2 0", 49, 1, 2, 0, 35, 178);
        Bench.due("the slot that is checked", b.unit.state(5), TwinLoader.NONE);
    }

    private static void checkedAndNoOther() {
        Bench.says("with 1 slot s (and no other) is CHECKED,");
        Bench b = Bench.unlocked();
        b.check(1);
        Bench.due("the slot that is checked", b.unit.state(5), 1);
        b.check(1);
        Bench.due("the slot that is checked", b.unit.state(5), 1);
        b.check(0);
        Bench.due("the slot that is checked", b.unit.state(5), 0);
        b.askDue("127 49 34", 49, 1, 3, 1);
        b.check(1);
        Bench.due("the slot that is checked", b.unit.state(5), 1);
        b.askDue("113 1 3", 49, 1, 3, 1);
    }

    private static void notCheckedAnyMore() {
        Bench.says("with 0 it isn't any more.");
        for (int slot = 0; slot < 2; slot++) {
            Bench b = Bench.unlocked();
            b.check(slot);
            b.askDue("113 1 2 0", 49, 1, 2, slot, 0, 0);
            Bench.due("the slot that is checked", b.unit.state(5), TwinLoader.NONE);
            b.askDue("113 1 2 0", 49, 1, 2, slot, 0, 0);
            Bench.due("the slot that is checked", b.unit.state(5), TwinLoader.NONE);
            b.askDue("127 49 34", 49, 1, 3, slot);
        }
    }

    private static void checkingForgetsOnlyItsOwnSlot() {
        Bench.says("with 0 it isn't any more.");
        for (int slot = 0; slot < 2; slot++) {
            Bench b = Bench.unlocked();
            b.check(slot);
            b.askDue("113 1 2 0", 49, 1, 2, 1 - slot, 0, 0);
            Bench.due("the slot that is checked", b.unit.state(5), slot);
        }
    }

    private static void releasingTheSlotThatRuns() {
        Bench.says("r 3: 34 if slot s runs or isn't checked;");
        Bench b = Bench.unlocked();
        b.check(0);
        b.askDue("127 49 34", 49, 1, 3, 0);
        Bench.due("the header of slot 0", b.flash(32, 36), "0 1 35 179");
        b = Bench.onSlotOne();
        String header = b.flash(80, 96);
        b.check(1);
        b.askDue("127 49 34", 49, 1, 3, 1);
        Bench.due("the header of slot 1", b.flash(80, 96), header);
    }

    private static void releasingUnchecked() {
        Bench.says("r 3: 34 if slot s runs or isn't checked;");
        Bench b = Bench.unlocked();
        b.askDue("127 49 34", 49, 1, 3, 1);
        b.load(1, 9, 8, 7);
        b.askDue("127 49 34", 49, 1, 3, 1);
        b.check(0);
        b.askDue("127 49 34", 49, 1, 3, 1);
        Bench.due("the header", b.flash(80, 84), Bench.repeated(255, 4));
        b.check(1);
        b.askDue("113 1 3", 49, 1, 3, 1);
    }

    private static void releasing() {
        Bench.says("into its header are written: the serial");
        Bench b = Bench.unlocked();
        b.release(1, 9, 8, 7);
        int sum = b.sumOfSlot(1);
        Bench.due("the header", b.flash(80, 96),
                "0 2 " + sum / 256 + " " + sum % 256 + " " + Bench.repeated(255, 12));
        Bench.due("the image", b.flash(48, 80), "9 8 7 " + Bench.repeated(255, 29));
        Bench.due("the header of slot 0", b.flash(32, 36), "0 1 35 179");
        Bench.due("the slot that is checked", b.unit.state(5), 1);
    }

    private static void serialsOfGoodSlotsOnly() {
        Bench.says("(1 more than the greatest one of good slots, modulo 256;");
        Bench b = Bench.unlocked();
        b.release(1, 5, 6);
        b.unit.cut(0x0000FF01);
        b.askDue("", 49, 1, 1, 1);
        Bench.due("the header of slot 1, which isn't good", b.flash(80, 82), "1 255");
        b.unlock();
        b.check(1);
        b.askDue("113 1 3", 49, 1, 3, 1);
        Bench.due("the serial, one more than that of slot 0", b.unit.flash(81), 2);
    }

    /** The slot that is released once more may be the good one with the greatest serial. */
    private static void theGreatestSerialIsItsOwn() {
        Bench.says("(1 more than the greatest one of good slots, modulo 256;");
        Bench b = Bench.unlocked();
        b.release(1, 5, 6);
        b.unit.cut(0x00000400);
        b.askDue("", 49, 1, 1, 1);
        Bench.due("the serial of slot 1", b.unit.flash(81), 6);
        Bench.due("the slot that runs", b.unit.state(0), 1);
        b.unlock();
        b.release(0, 9);
        Bench.due("the serial of slot 0", b.unit.flash(33), 7);
        b.askDue("113 1 3", 49, 1, 3, 0);
        Bench.due("the serial of slot 0, 8 being written over 7", b.unit.flash(33), 0);
        b.askDue("113 1 1", 49, 1, 1, 0);
        b.check(0);
        b.askDue("113 1 3", 49, 1, 3, 0);
        Bench.due("the serial of slot 0, when it was erased", b.unit.flash(33), 7);
    }

    /** Only a torn erasing of a good slot's header makes a serial so great. */
    private static void serialsModulo() {
        Bench.says("(1 more than the greatest one of good slots, modulo 256;");
        for (int serial = 253; serial <= 255; serial += 2) {
            Bench b = Bench.onSlotOne();
            b.unit.cut(serial << 8);
            b.askDue("", 49, 1, 1, 0);
            Bench.due("the serial of slot 0", b.unit.flash(33), serial);
            Bench.due("the slot that runs", b.unit.state(0), 0);
            b.unlock();
            b.release(1, 5, 6);
            Bench.due("the serial after " + serial, b.unit.flash(81), (serial + 1) % 256);
            Bench.due("the sum behind it", b.unit.word(80) & 0xFFFF, b.sumOfSlot(1));
        }
    }

    private static void writtenNotErased() {
        Bench.says("and the sum of its image, in one writing, then the mark, 0; 113 1 3.");
        Bench b = Bench.unlocked();
        b.release(1, 9, 8, 7);
        int old = b.sumOfSlot(1);
        b.askDue("116 8", 52, 1, 1);
        b.askDue("118 1", 54, 1, 1);
        b.check(1);
        int sum = b.sumOfSlot(1) & old;
        b.askDue("113 1 3", 49, 1, 3, 1);
        Bench.due("the header", b.flash(80, 84), "0 2 " + sum / 256 + " " + sum % 256);
        b.unit.restart();
        Bench.due("the slot that runs", b.unit.state(0), 0);
    }

    private static void itRunsByTheNextBooting() {
        Bench.says("(It may run by the next booting.)");
        Bench b = Bench.unlocked();
        b.release(1, 9, 8, 7);
        Bench.due("the slot that runs", b.unit.state(0), 0);
        b.askDue("127 49 34", 49, 1, 1, 0);
        b.askDue("81 1", 17, 1);
        Bench.due("the slot that runs after 17 1", b.unit.state(0), 1);
        b.askDue("98 0 1", 34, 0);
    }
}
