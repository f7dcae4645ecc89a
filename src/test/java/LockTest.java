/** Promise 2: seeds, keys, wrong keys and the delay. */
public final class LockTest {
    public static void main(String[] args) {
        seedsAndKeys();
        everyKey();
        noSeedOpen();
        whatClosesASeed();
        wrongKeys();
        rightKeysForgiveWrongOnes();
        theDelay();
        wrongKeysOutliveSessions();
        seedsWhileUnlocked();
        seedsAreCountedThroughBooting();
        theSeedThatIsZero();
        Bench.end();
    }

    private static Bench inSessionTwo() {
        Bench b = new Bench();
        b.askDue("80 2", 16, 2);
        return b;
    }

    private static void seedsAndKeys() {
        Bench b = inSessionTwo();
        for (int given = 0; given < 15; given++) {
            int seed = (17 + 73 * given) % 256;
            b.askDue("103 1 " + seed, 39, 1);
            b.askDue("103 2", 39, 2, (5 * seed + 3) % 256);
            Bench.due("unlocked", b.unit.state(2), 1);
            b.askDue("80 2", 16, 2);
            Bench.due("unlocked", b.unit.state(2), 0);
        }
    }

    private static void everyKey() {
        for (int key = 0; key < 256; key++) {
            Bench b = inSessionTwo();
            b.askDue("103 1 17", 39, 1);
            b.askDue(key == 88 ? "103 2" : "127 39 53", 39, 2, key);
            Bench.due("unlocked by " + key, b.unit.state(2), key == 88 ? 1 : 0);
        }
    }

    private static void noSeedOpen() {
        Bench b = inSessionTwo();
        b.askDue("127 39 36", 39, 2, 3);
        b.askDue("127 39 36", 39, 2, 88);
        b.askDue("127 39 36", 39, 2, 88);
        Bench.due("the delay", b.unit.state(8), 0);
        b.askDue("103 1 17", 39, 1);
        b.askDue("127 39 53", 39, 2, 0);
    }

    private static void whatClosesASeed() {
        Bench b = inSessionTwo();
        b.askDue("103 1 17", 39, 1);
        b.askDue("127 39 18", 39, 0);
        b.askDue("127 39 19", 39, 2);
        b.askDue("127 39 19", 39, 1, 1);
        b.askDue("127 200 17", 200, 1);
        b.askDue("126 0", 62, 0);
        b.askDue("103 2", 39, 2, 88);
        b = inSessionTwo();
        b.askDue("103 1 17", 39, 1);
        b.askDue("103 1 90", 39, 1);
        b.askDue("127 39 53", 39, 2, 88);
        b.askDue("127 39 36", 39, 2, 197);
        b = inSessionTwo();
        b.askDue("103 1 17", 39, 1);
        b.askDue("103 2", 39, 2, 88);
        b.askDue("127 39 36", 39, 2, 88);
        b = inSessionTwo();
        b.askDue("103 1 17", 39, 1);
        b.unit.restart();
        b.askDue("80 2", 16, 2);
        b.askDue("127 39 36", 39, 2, 88);
    }

    private static void wrongKeys() {
        Bench b = inSessionTwo();
        for (int round = 0; round < 3; round++) {
            b.ask(39, 1);
            b.askDue("127 39 53", 39, 2, 0);
            Bench.due("the delay", b.unit.state(8), 0);
            b.ask(39, 1);
            b.askDue("127 39 54", 39, 2, 0);
            Bench.due("the delay", b.unit.state(8), 8);
            b.askDue("127 39 36", 39, 2, 0);
            b.ticks(8);
        }
    }

    private static void rightKeysForgiveWrongOnes() {
        Bench b = inSessionTwo();
        b.ask(39, 1);
        b.askDue("127 39 53", 39, 2, 0);
        b.unlock();
        b.askDue("80 2", 16, 2);
        b.ask(39, 1);
        b.askDue("127 39 53", 39, 2, 0);
    }

    private static void theDelay() {
        Bench b = inSessionTwo();
        b.ask(39, 1);
        b.ask(39, 2, 0);
        b.ask(39, 1);
        b.ask(39, 2, 0);
        for (int delay = 8; delay > 0; delay--) {
            Bench.due("the delay", b.unit.state(8), delay);
            b.askDue("127 39 55", 39, 1);
            b.askDue("127 39 36", 39, 2, 0);
            b.unit.tick();
        }
        b.askDue("103 1 163", 39, 1);
        b.unit.tick();
        Bench.due("the delay", b.unit.state(8), 0);
    }

    private static void wrongKeysOutliveSessions() {
        Bench b = inSessionTwo();
        b.ask(39, 1);
        b.askDue("127 39 53", 39, 2, 0);
        b.askDue("80 1", 16, 1);
        b.askDue("80 2", 16, 2);
        b.ask(39, 1);
        b.askDue("127 39 54", 39, 2, 0);
        b.askDue("80 1", 16, 1);
        Bench.due("the delay in session 1", b.unit.state(8), 8);
        b.unit.tick();
        Bench.due("the delay in session 1", b.unit.state(8), 7);
        b.unit.restart();
        Bench.due("the delay after booting", b.unit.state(8), 0);
        b.askDue("80 2", 16, 2);
        b.ask(39, 1);
        b.askDue("127 39 53", 39, 2, 0);
        b.unit.restart();
        b.askDue("80 2", 16, 2);
        b.ask(39, 1);
        b.askDue("127 39 53", 39, 2, 0);
    }

    private static void seedsWhileUnlocked() {
        Bench b = new Bench();
        b.unlock();
        b.askDue("103 1 0", 39, 1);
        b.askDue("127 39 36", 39, 2, 3);
        Bench.due("unlocked", b.unit.state(2), 1);
        b.askDue("80 2", 16, 2);
        b.askDue("103 1 90", 39, 1);
    }

    private static void seedsAreCountedThroughBooting() {
        Bench b = inSessionTwo();
        b.askDue("103 1 17", 39, 1);
        b.unit.restart();
        b.askDue("80 2", 16, 2);
        b.askDue("103 1 90", 39, 1);
        b.askDue("81 1", 17, 1);
        b.askDue("80 2", 16, 2);
        b.askDue("103 1 163", 39, 1);
    }

    private static void theSeedThatIsZero() {
        Bench b = inSessionTwo();
        for (int given = 0; given < 119; given++) {
            b.frame(2, 39, 1);
        }
        b.askDue("103 1 0", 39, 1);
        Bench.due("unlocked", b.unit.state(2), 0);
        b.askDue("127 39 36", 39, 2, 3);
        b.askDue("103 1 73", 39, 1);
        b.askDue("103 2", 39, 2, 112);
    }
}
