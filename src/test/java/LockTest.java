/** REQUESTS 39: seeds, keys, wrong keys and the delay. */
public final class LockTest {
    public static void main(String[] args) {
        noSeedsWhileDelayed();
        noSeedWhenUnlocked();
        seeds();
        refusedSeedsAreNotCounted();
        zeroWhenUnlockedIsNotCounted();
        seedsAreCountedThroughBooting();
        openUntilTheNextSeed();
        openUntilAKey();
        openUntilAWrongKey();
        notClosedByOtherRequests();
        theSeedThatIsZero();
        keysWithoutASeed();
        everyKey();
        keysModulo();
        rightKeysForgiveWrongOnes();
        wrongKeys();
        wrongKeysAfterADelay();
        Bench.end();
    }

    private static Bench delayed() {
        Bench b = Bench.inSessionTwo();
        b.wrongKeyDue("127 39 53");
        b.wrongKeyDue("127 39 54");
        return b;
    }

    private static void noSeedsWhileDelayed() {
        Bench.says("39 1: 55 if the DELAY isn't 0;");
        Bench b = delayed();
        for (int delay = 8; delay > 0; delay--) {
            Bench.due("the delay", b.unit.state(8), delay);
            b.askDue("127 39 55", 39, 1);
            b.ticks(1);
        }
        b.askDue("103 1 163", 39, 1);
        b.askDue("103 2", 39, 2, Bench.keyFor(163));
    }

    private static void noSeedWhenUnlocked() {
        Bench.says("else 103 1 x: x is 0 if it is unlocked,");
        Bench b = Bench.unlocked();
        b.askDue("103 1 0", 39, 1);
        b.askDue("103 1 0", 39, 1);
        Bench.due("whether it is unlocked", b.unit.state(2), 1);
        b.askDue("127 39 36", 39, 2, 3);
        Bench.due("whether it is unlocked", b.unit.state(2), 1);
    }

    private static void seeds() {
        Bench.says("else the SEED: 17 and 73 times the number of seeds given before, modulo 256"
                + " (counted from the beginning on, also through booting);");
        Bench b = Bench.inSessionTwo();
        int[] want = {17, 90, 163, 236, 53, 126, 199, 16, 89, 162, 235, 52};
        for (int seed : want) {
            b.askDue("103 1 " + seed, 39, 1);
        }
    }

    private static void refusedSeedsAreNotCounted() {
        Bench.says("else the SEED: 17 and 73 times the number of seeds given before, modulo 256"
                + " (counted from the beginning on, also through booting);");
        Bench b = delayed();
        b.askDue("127 39 55", 39, 1);
        b.askDue("127 39 19", 39, 1, 1);
        b.askDue("127 39 18", 39, 3);
        b.askDue("80 1", 16, 1);
        b.askDue("127 39 127", 39, 1);
        b.askDue("80 2", 16, 2);
        b.ticks(8);
        b.askDue("103 1 163", 39, 1);
    }

    private static void zeroWhenUnlockedIsNotCounted() {
        Bench.says("else the SEED: 17 and 73 times the number of seeds given before, modulo 256"
                + " (counted from the beginning on, also through booting);");
        Bench b = Bench.unlocked();
        b.askDue("103 1 0", 39, 1);
        b.askDue("103 1 0", 39, 1);
        b.askDue("80 2", 16, 2);
        b.askDue("103 1 90", 39, 1);
    }

    private static void seedsAreCountedThroughBooting() {
        Bench.says("else the SEED: 17 and 73 times the number of seeds given before, modulo 256"
                + " (counted from the beginning on, also through booting);");
        Bench b = Bench.inSessionTwo();
        b.askDue("103 1 17", 39, 1);
        b.unit.restart();
        b.askDue("80 2", 16, 2);
        b.askDue("103 1 90", 39, 1);
        b.askDue("81 1", 17, 1);
        b.askDue("80 2", 16, 2);
        b.askDue("103 1 163", 39, 1);
        b.askDue("103 2", 39, 2, Bench.keyFor(163));
        b.unit.cut(0);
        b.askDue("", 49, 1, 1, 1);
        b.askDue("80 2", 16, 2);
        b.askDue("103 1 236", 39, 1);
    }

    private static void openUntilTheNextSeed() {
        Bench.says("it is OPEN, if it isn't 0, until the next request 39 that isn't answered by 17, 19 or 18.");
        Bench b = Bench.inSessionTwo();
        b.askDue("103 1 17", 39, 1);
        b.askDue("103 1 90", 39, 1);
        b.askDue("127 39 53", 39, 2, Bench.keyFor(17));
        b.askDue("127 39 36", 39, 2, Bench.keyFor(90));
    }

    private static void openUntilAKey() {
        Bench.says("it is OPEN, if it isn't 0, until the next request 39 that isn't answered by 17, 19 or 18.");
        Bench b = Bench.inSessionTwo();
        b.askDue("103 1 17", 39, 1);
        b.askDue("103 2", 39, 2, 88);
        b.askDue("127 39 36", 39, 2, 88);
        Bench.due("whether it is unlocked", b.unit.state(2), 1);
    }

    private static void openUntilAWrongKey() {
        Bench.says("it is OPEN, if it isn't 0, until the next request 39 that isn't answered by 17, 19 or 18.");
        Bench b = Bench.inSessionTwo();
        b.askDue("103 1 17", 39, 1);
        b.askDue("127 39 53", 39, 2, 87);
        b.askDue("127 39 36", 39, 2, 88);
        Bench.due("whether it is unlocked", b.unit.state(2), 0);
        b.askDue("103 1 90", 39, 1);
        b.askDue("127 39 54", 39, 2, 88);
        b.askDue("127 39 36", 39, 2, Bench.keyFor(90));
    }

    private static void notClosedByOtherRequests() {
        Bench.says("it is OPEN, if it isn't 0, until the next request 39 that isn't answered by 17, 19 or 18.");
        Bench b = Bench.inSessionTwo();
        b.askDue("103 1 17", 39, 1);
        b.askDue("127 39 18", 39, 0);
        b.askDue("127 39 18", 39, 3);
        b.askDue("127 39 19", 39, 2);
        b.askDue("127 39 19", 39, 1, 1);
        b.askDue("127 39 19", 39);
        b.askDue("127 200 17", 200, 1);
        b.askDue("126 0", 62, 0);
        b.askDue("127 46 51", 46, 1, 1);
        b.askDue("98 2 0 1 2 3 4 5 6 7", 34, 2);
        b.ticks(9);
        b.askDue("103 2", 39, 2, 88);
    }

    /** 17 and 119 times 73 are 34 times 256. */
    private static void theSeedThatIsZero() {
        Bench.says("it is OPEN, if it isn't 0, until the next request 39 that isn't answered by 17, 19 or 18.");
        Bench b = Bench.inSessionTwo();
        for (int given = 0; given < 119; given++) {
            b.frame(2, 39, 1);
        }
        b.askDue("103 1 0", 39, 1);
        Bench.due("whether it is unlocked", b.unit.state(2), 0);
        b.askDue("127 39 36", 39, 2, 3);
        b.askDue("103 1 73", 39, 1);
        b.askDue("103 2", 39, 2, 112);
    }

    private static void keysWithoutASeed() {
        Bench.says("39 2 y: 36 if no seed is open;");
        Bench b = Bench.inSessionTwo();
        b.askDue("127 39 36", 39, 2, 3);
        b.askDue("127 39 36", 39, 2, 88);
        b.askDue("127 39 36", 39, 2, 88);
        Bench.due("the delay", b.unit.state(8), 0);
        b.wrongKeyDue("127 39 53");
        b.askDue("127 39 36", 39, 2, 3);
        b.wrongKeyDue("127 39 54");
        b.askDue("127 39 36", 39, 2, 3);
        Bench.due("the delay", b.unit.state(8), 8);
    }

    private static void everyKey() {
        Bench.says("if y is 5 times that seed and 3, modulo 256: 103 2, it is unlocked, wrong keys are 0;");
        for (int key = 0; key < 256; key++) {
            Bench b = Bench.inSessionTwo();
            b.askDue("103 1 17", 39, 1);
            b.askDue(key == 88 ? "103 2" : "127 39 53", 39, 2, key);
            Bench.due("whether it is unlocked by " + key, b.unit.state(2), key == 88 ? 1 : 0);
        }
    }

    private static void keysModulo() {
        Bench.says("if y is 5 times that seed and 3, modulo 256: 103 2, it is unlocked, wrong keys are 0;");
        Bench b = Bench.inSessionTwo();
        int[] seeds = {17, 90, 163, 236, 53, 126, 199};
        int[] keys = {88, 197, 50, 159, 12, 121, 230};
        for (int k = 0; k < seeds.length; k++) {
            b.askDue("103 1 " + seeds[k], 39, 1);
            b.askDue("103 2", 39, 2, keys[k]);
            Bench.due("whether it is unlocked", b.unit.state(2), 1);
            b.askDue("80 2", 16, 2);
        }
    }

    private static void rightKeysForgiveWrongOnes() {
        Bench.says("if y is 5 times that seed and 3, modulo 256: 103 2, it is unlocked, wrong keys are 0;");
        Bench b = Bench.inSessionTwo();
        b.wrongKeyDue("127 39 53");
        b.unlock();
        b.askDue("80 2", 16, 2);
        b.wrongKeyDue("127 39 53");
        Bench.due("the delay", b.unit.state(8), 0);
        b.wrongKeyDue("127 39 54");
    }

    private static void wrongKeys() {
        Bench.says("else wrong keys are 1 more: 53 if that makes 1, and 54 if it makes 2, the DELAY is 8 then,"
                + " and wrong keys are 0.");
        Bench b = Bench.inSessionTwo();
        b.wrongKeyDue("127 39 53");
        Bench.due("the delay", b.unit.state(8), 0);
        Bench.due("whether it is unlocked", b.unit.state(2), 0);
        b.wrongKeyDue("127 39 54");
        Bench.due("the delay", b.unit.state(8), 8);
        Bench.due("whether it is unlocked", b.unit.state(2), 0);
    }

    private static void wrongKeysAfterADelay() {
        Bench.says("else wrong keys are 1 more: 53 if that makes 1, and 54 if it makes 2, the DELAY is 8 then,"
                + " and wrong keys are 0.");
        Bench b = Bench.inSessionTwo();
        for (int round = 0; round < 3; round++) {
            b.wrongKeyDue("127 39 53");
            Bench.due("the delay", b.unit.state(8), 0);
            b.wrongKeyDue("127 39 54");
            Bench.due("the delay", b.unit.state(8), 8);
            b.ticks(8);
        }
    }
}
