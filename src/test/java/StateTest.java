/** Promise 10: each number that tells how the unit stands, and that asking changes nothing. */
public final class StateTest {
    public static void main(String[] args) {
        Bench b = new Bench();
        int[] wrong = {-1, 9, 10, 100, Integer.MIN_VALUE, Integer.MAX_VALUE};
        for (int what : wrong) {
            Bench.due("state(" + what + ")", b.unit.state(what), TwinLoader.NONE);
        }
        statesDue(b, 0, 1, 0, -1, 0, -1, 0, 0, 0);
        b.askDue("80 2", 16, 2);
        statesDue(b, 0, 2, 0, -1, 0, -1, 0, 0, 0);
        b.unlock();
        statesDue(b, 0, 2, 1, -1, 0, -1, 0, 0, 0);
        b.askDue("116 8", 52, 1, 9);
        statesDue(b, 0, 2, 1, 9, 0, -1, 0, 0, 0);
        b.askDue("118 1", 54, 1, 1, 2, 3, 4, 5, 6, 7, 8);
        statesDue(b, 0, 2, 1, 1, 0, -1, 0, 0, 0);
        b.askDue("118 2", 54, 2, 9);
        statesDue(b, 0, 2, 1, 0, 0, -1, 0, 0, 0);
        b.check(1);
        statesDue(b, 0, 2, 1, 0, 0, 1, 0, 0, 0);
        b.askDue("119", 55);
        statesDue(b, 0, 2, 1, -1, 0, 1, 0, 0, 0);
        b.askDue("113 1 3", 49, 1, 3, 1);
        b.unit.cut(0);
        statesDue(b, 0, 2, 1, -1, 1, 1, 0, 0, 0);
        b.frame(16, 30, 1);
        statesDue(b, 0, 2, 1, -1, 1, 1, 24, 0, 0);
        b.frame(33);
        statesDue(b, 0, 2, 1, -1, 1, 1, 17, 0, 0);
        b.frame(2, 34, 2);
        statesDue(b, 0, 2, 1, -1, 1, 1, 0, 4, 0);
        b.unit.restart();
        statesDue(b, 1, 1, 0, -1, 1, -1, 0, 0, 0);
        theDelay(b);
        Bench.end();
    }

    private static void statesDue(Bench b, int... want) {
        for (int round = 0; round < 2; round++) {
            for (int what = 0; what < want.length; what++) {
                Bench.due("state(" + what + ")", b.unit.state(what), want[what]);
            }
        }
    }

    private static void theDelay(Bench b) {
        b.askDue("80 2", 16, 2);
        b.ask(39, 1);
        b.ask(39, 2, 0);
        b.ask(39, 1);
        b.ask(39, 2, 0);
        statesDue(b, 1, 2, 0, -1, 1, -1, 0, 0, 8);
        b.unit.tick();
        statesDue(b, 1, 2, 0, -1, 1, -1, 0, 0, 7);
    }
}
