/** BOOTING, and promise 7. */
public final class BootTest {
    public static void main(String[] args) {
        theGreatestSerial();
        serialsOverOneHundredTwentySeven();
        theSerialZero();
        slotZeroOfTwoAlike();
        slotsThatAreNotGood();
        theSessionAndTheLock();
        nothingIsReceived();
        nothingIsSent();
        nothingIsDownloaded();
        noSlotIsChecked();
        noSeedIsOpen();
        wrongKeysAreForgotten();
        theDelayIsOver();
        theByteThatWasWritten();
        noFrameWaits();
        restartKeepsACut();
        restartKeepsTheFlash();
        restartKeepsTheSeeds();
        restartsOfANewUnit();
        Bench.end();
    }

    private static void theGreatestSerial() {
        Bench.says("BOOTING: the good slot with the greatest serial RUNS");
        Bench b = new Bench();
        for (int serial = 2; serial <= 4; serial++) {
            int slot = (serial + 1) % 2;
            b.unlock();
            b.release(slot, serial, 100);
            Bench.due("the serial of slot " + slot, b.unit.flash(48 * slot + 33), serial);
            Bench.due("the slot that runs before booting", b.unit.state(0), 1 - slot);
            b.unit.restart();
            Bench.due("the slot that runs", b.unit.state(0), slot);
        }
    }

    /** A unit that tears the erasing of slot 0's header, so that its serial gains bits. */
    private static Bench withSlotZeroSerial(int serial) {
        Bench b = Bench.onSlotOne();
        b.unit.cut(serial << 8);
        b.askDue("", 49, 1, 1, 0);
        Bench.due("the header of slot 0", b.flash(32, 36), "0 " + (serial | 1) + " 35 179");
        return b;
    }

    private static void serialsOverOneHundredTwentySeven() {
        Bench.says("BOOTING: the good slot with the greatest serial RUNS");
        for (int serial = 1; serial < 256; serial += 2) {
            Bench b = withSlotZeroSerial(serial);
            Bench.due("the slot that runs, serials " + serial + " and 2", b.unit.state(0), serial > 2 ? 0 : 1);
        }
    }

    private static void theSerialZero() {
        Bench.says("BOOTING: the good slot with the greatest serial RUNS");
        Bench b = withSlotZeroSerial(255);
        b.unlock();
        b.release(1, 5, 6);
        Bench.due("the serial of slot 1", b.unit.flash(81), 0);
        b.unit.restart();
        Bench.due("the slot that runs, serials 255 and 0", b.unit.state(0), 0);
    }

    private static void slotZeroOfTwoAlike() {
        Bench.says("(slot 0 of two alike;");
        Bench b = Bench.onSlotOne();
        b.release(0, 7, 8);
        b.unit.restart();
        Bench.due("the slot that runs, serials 3 and 2", b.unit.state(0), 0);
        b.unlock();
        b.unit.cut(0x00000100);
        b.askDue("", 49, 1, 1, 1);
        Bench.due("the serials", b.unit.flash(33) + " " + b.unit.flash(81), "3 3");
        Bench.due("the slot that runs, serials 3 and 3", b.unit.state(0), 0);
        b.unlock();
        b.unit.cut(0x00000400);
        b.askDue("", 49, 1, 1, 1);
        Bench.due("the slot that runs, serials 3 and 7", b.unit.state(0), 1);
    }

    private static void slotsThatAreNotGood() {
        Bench.says("BOOTING: the good slot with the greatest serial RUNS");
        Bench b = Bench.unlocked();
        b.release(1, 5, 6);
        b.unit.cut(0x0000FF01);
        b.askDue("", 49, 1, 1, 1);
        Bench.due("the header of slot 1", b.flash(80, 82), "1 255");
        Bench.due("the slot that runs, slot 1 not being good", b.unit.state(0), 0);
    }

    private static void theSessionAndTheLock() {
        Bench.says("The session is 1, the unit is LOCKED,");
        Bench b = Bench.unlocked();
        b.unit.restart();
        Bench.due("the session", b.unit.state(1), 1);
        Bench.due("whether it is unlocked", b.unit.state(2), 0);
        b.askDue("127 46 127", 46, 1, 5);
        b.askDue("80 2", 16, 2);
        b.askDue("127 46 51", 46, 1, 5);
    }

    private static void nothingIsReceived() {
        Bench.says("nothing is being received, sent or downloaded,");
        Bench b = new Bench();
        b.frame(16, 9, 200);
        b.unit.restart();
        Bench.due("bytes wanted", b.unit.state(6), 0);
        Bench.due("the next frame of the request", b.frame(33), 0);
    }

    private static void nothingIsSent() {
        Bench.says("nothing is being received, sent or downloaded,");
        Bench b = new Bench();
        b.frame(2, 34, 2);
        b.unit.restart();
        Bench.due("bytes to be sent", b.unit.state(7), 0);
        Bench.due("48 0", b.frame(48, 0), 0);
        Bench.due("a request, as no answer waits", b.frame(2, 62, 0), 1);
    }

    private static void nothingIsDownloaded() {
        Bench.says("nothing is being received, sent or downloaded,");
        Bench b = Bench.unlocked();
        b.askDue("116 8", 52, 1, 9);
        b.unit.restart();
        Bench.due("the download", b.unit.state(3), TwinLoader.NONE);
        b.unlock();
        b.askDue("127 54 36", 54, 1, 0);
    }

    private static void noSlotIsChecked() {
        Bench.says("no slot is CHECKED,");
        Bench b = Bench.unlocked();
        b.check(1);
        b.unit.restart();
        Bench.due("the slot that is checked", b.unit.state(5), TwinLoader.NONE);
        b.unlock();
        b.askDue("127 49 34", 49, 1, 3, 1);
    }

    private static void noSeedIsOpen() {
        Bench.says("no seed is OPEN,");
        Bench b = Bench.inSessionTwo();
        int seed = b.seed();
        b.unit.restart();
        b.askDue("80 2", 16, 2);
        b.askDue("127 39 36", 39, 2, Bench.keyFor(seed));
    }

    private static void wrongKeysAreForgotten() {
        Bench.says("wrong keys and the DELAY are 0,");
        Bench b = Bench.inSessionTwo();
        b.wrongKeyDue("127 39 53");
        b.unit.restart();
        b.askDue("80 2", 16, 2);
        b.wrongKeyDue("127 39 53");
        b.wrongKeyDue("127 39 54");
    }

    private static void theDelayIsOver() {
        Bench.says("wrong keys and the DELAY are 0,");
        Bench b = Bench.inSessionTwo();
        b.wrongKeyDue("127 39 53");
        b.wrongKeyDue("127 39 54");
        Bench.due("the delay", b.unit.state(8), 8);
        b.unit.restart();
        Bench.due("the delay after booting", b.unit.state(8), 0);
        b.askDue("80 2", 16, 2);
        b.askDue("103 1 163", 39, 1);
    }

    private static void theByteThatWasWritten() {
        Bench.says("the byte that was written (46) is 0,");
        Bench b = Bench.unlocked();
        b.askDue("110 1", 46, 1, 200);
        b.askDue("98 1 200", 34, 1);
        b.unit.restart();
        b.askDue("98 1 0", 34, 1);
    }

    private static void noFrameWaits() {
        Bench.says("and no frame waits.");
        Bench b = new Bench();
        for (int k = 0; k < 13; k++) {
            b.frame(2, 62, 0);
        }
        b.unit.restart();
        Bench.due("peek(0)", b.unit.peek(0), TwinLoader.NONE);
        Bench.due("take()", b.unit.take(), false);
        Bench.due("frames that wait after a frame that does nothing", b.frame(0), 0);
        Bench.due("frames that wait after a request", b.frame(2, 34, 0), 1);
        Bench.due("its answer", b.taken(), "3 98 0 0 0 0 0 0");
    }

    private static void restartKeepsACut() {
        Bench.says("The unit boots (a cut that is ordered still is;");
        Bench b = Bench.unlocked();
        b.unit.cut(0xFF);
        b.unit.restart();
        Bench.due("whether a cut is ordered", b.unit.state(4), 1);
        b.unlock();
        b.askDue("116 8", 52, 1, 2);
        b.askDue("", 54, 1, 0, 0);
        Bench.due("what the cut left", b.flash(48, 51), "0 255 255");
        b.unit.restart();
        Bench.due("whether a cut is ordered", b.unit.state(4), 0);
    }

    private static void restartKeepsTheFlash() {
        Bench.says("frames that wait are gone, the flash and how many seeds were given stay).");
        Bench b = Bench.unlocked();
        b.release(1, 3, 2, 1);
        b.send(62, 0);
        String all = b.flash(0, 96);
        b.unit.restart();
        Bench.due("the frames that wait", b.taken(), "none");
        Bench.due("the flash", b.flash(0, 96), all);
    }

    private static void restartKeepsTheSeeds() {
        Bench.says("frames that wait are gone, the flash and how many seeds were given stay).");
        Bench b = Bench.inSessionTwo();
        b.askDue("103 1 17", 39, 1);
        b.askDue("103 1 90", 39, 1);
        b.unit.restart();
        b.unit.restart();
        b.askDue("80 2", 16, 2);
        b.askDue("103 1 163", 39, 1);
    }

    private static void restartsOfANewUnit() {
        Bench.says("The unit boots (a cut that is ordered still is;");
        Bench b = new Bench();
        b.unit.restart();
        b.statesDue("after a restart of a new unit", Bench.BOOTED);
        b.unit.restart();
        b.statesDue("after a second restart", Bench.BOOTED);
        Bench.due("the flash", b.flash(0, 4) + " " + b.flash(32, 36), "0 1 2 3 0 1 35 179");
    }
}
