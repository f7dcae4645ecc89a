/** Promise 10: each number that tells how the unit stands, and that asking changes nothing. */
public final class StateTest {
    public static void main(String[] args) {
        theSlotThatRuns();
        theSession();
        whetherUnlocked();
        theDownload();
        whetherACutIsOrdered();
        theCheckedSlot();
        bytesWanted();
        bytesToBeSent();
        theDelay();
        whetherIsOneOrZero();
        otherNumbers();
        askingChangesNothing();
        Bench.end();
    }

    private static void theSlotThatRuns() {
        Bench.says("What 0 the slot that runs (NONE if none does),");
        Bench b = new Bench();
        Bench.due("state(0)", b.unit.state(0), 0);
        b.unlock();
        b.release(1, 5, 6);
        Bench.due("state(0)", b.unit.state(0), 0);
        b.unit.restart();
        Bench.due("state(0)", b.unit.state(0), 1);
    }

    private static void theSession() {
        Bench.says("1 the session,");
        Bench b = new Bench();
        Bench.due("state(1)", b.unit.state(1), 1);
        b.askDue("80 2", 16, 2);
        Bench.due("state(1)", b.unit.state(1), 2);
        b.askDue("80 1", 16, 1);
        Bench.due("state(1)", b.unit.state(1), 1);
    }

    private static void whetherUnlocked() {
        Bench.says("2 whether it is unlocked,");
        Bench b = Bench.inSessionTwo();
        int seed = b.seed();
        Bench.due("state(2)", b.unit.state(2), 0);
        b.ask(39, 2, Bench.keyFor(seed));
        Bench.due("state(2)", b.unit.state(2), 1);
    }

    private static void theDownload() {
        Bench.says("3 how many bytes of a download are still to come (0 until its 55; NONE if there is none),");
        Bench b = Bench.unlocked();
        Bench.due("state(3)", b.unit.state(3), TwinLoader.NONE);
        b.askDue("116 8", 52, 1, 32);
        Bench.due("state(3)", b.unit.state(3), 32);
        b.askDue("116 8", 52, 1, 9);
        b.askDue("118 1", 54, 1, 1, 2, 3, 4, 5, 6, 7, 8);
        Bench.due("state(3)", b.unit.state(3), 1);
        b.askDue("118 2", 54, 2, 9);
        Bench.due("state(3), all having come", b.unit.state(3), 0);
        b.askDue("127 54 36", 54, 3, 9);
        Bench.due("state(3), all having come", b.unit.state(3), 0);
        b.askDue("119", 55);
        Bench.due("state(3) after 55", b.unit.state(3), TwinLoader.NONE);
    }

    private static void whetherACutIsOrdered() {
        Bench.says("4 whether a power cut is ordered,");
        Bench b = Bench.unlocked();
        Bench.due("state(4)", b.unit.state(4), 0);
        b.unit.cut(0);
        Bench.due("state(4)", b.unit.state(4), 1);
        b.unit.cut(-1);
        Bench.due("state(4)", b.unit.state(4), 1);
        b.ask(49, 1, 1, 1);
        Bench.due("state(4)", b.unit.state(4), 0);
    }

    private static void theCheckedSlot() {
        Bench.says("5 the slot that is checked (NONE if none is),");
        Bench b = Bench.unlocked();
        Bench.due("state(5)", b.unit.state(5), TwinLoader.NONE);
        b.check(0);
        Bench.due("state(5)", b.unit.state(5), 0);
        b.check(1);
        Bench.due("state(5)", b.unit.state(5), 1);
        b.askDue("113 1 1", 49, 1, 1, 1);
        Bench.due("state(5)", b.unit.state(5), TwinLoader.NONE);
    }

    private static void bytesWanted() {
        Bench.says("6 how many bytes are wanted,");
        Bench b = new Bench();
        Bench.due("state(6)", b.unit.state(6), 0);
        b.frame(16, 34, 200);
        Bench.due("state(6)", b.unit.state(6), 28);
        b.frame(33);
        Bench.due("state(6)", b.unit.state(6), 21);
        b.frame(16, 8, 200);
        Bench.due("state(6)", b.unit.state(6), 2);
        b.frame(33);
        Bench.due("state(6)", b.unit.state(6), 0);
    }

    private static void bytesToBeSent() {
        Bench.says("7 how many bytes of an answer that waits are still to be sent,");
        Bench b = new Bench();
        Bench.due("state(7)", b.unit.state(7), 0);
        b.frame(2, 62, 0);
        Bench.due("state(7)", b.unit.state(7), 0);
        b.frame(2, 34, 2);
        Bench.due("state(7)", b.unit.state(7), 4);
        b.frame(49);
        Bench.due("state(7)", b.unit.state(7), 4);
        b.frame(48, 1);
        Bench.due("state(7)", b.unit.state(7), 0);
    }

    private static void theDelay() {
        Bench.says("8 the DELAY.");
        Bench b = Bench.inSessionTwo();
        b.wrongKeyDue("127 39 53");
        Bench.due("state(8)", b.unit.state(8), 0);
        b.wrongKeyDue("127 39 54");
        Bench.due("state(8)", b.unit.state(8), 8);
        b.ticks(1);
        Bench.due("state(8)", b.unit.state(8), 7);
    }

    private static void whetherIsOneOrZero() {
        Bench.says("(Whether: 1 or 0.)");
        Bench b = Bench.unlocked();
        b.unit.cut(5);
        Bench.due("state(2)", b.unit.state(2), 1);
        Bench.due("state(4)", b.unit.state(4), 1);
        b.ask(49, 1, 1, 1);
        Bench.due("state(2)", b.unit.state(2), 0);
        Bench.due("state(4)", b.unit.state(4), 0);
    }

    private static void otherNumbers() {
        Bench.says("NONE for another number.");
        Bench b = new Bench();
        int[] wrong = {-1, -2, -9, 9, 10, 16, 100, 256, Integer.MIN_VALUE, Integer.MAX_VALUE};
        for (int what : wrong) {
            Bench.due("state(" + what + ")", b.unit.state(what), TwinLoader.NONE);
        }
    }

    private static void askingChangesNothing() {
        Bench.says("What 0 the slot that runs (NONE if none does),");
        Bench b = Bench.unlocked();
        b.askDue("116 8", 52, 1, 9);
        b.check(1);
        b.unit.cut(0);
        b.frame(16, 30, 200);
        for (int round = 0; round < 2; round++) {
            b.statesDue("in round " + round, 0, 2, 1, 9, 1, 1, 24, 0, 0);
            b.unit.flash(3);
            b.unit.word(3);
            b.unit.peek(3);
        }
    }
}
