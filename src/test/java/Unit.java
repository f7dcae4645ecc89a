/** A unit whose calls are counted: the document promises nothing behind the 512th one. */
final class Unit {
    private static final int MOST_CALLS = 512;

    private final TwinLoader inner = new TwinLoader();
    private int calls;

    private TwinLoader called() {
        calls++;
        if (calls == MOST_CALLS + 1) {
            Bench.due("the calls of one test on one object", calls, MOST_CALLS);
        }
        return inner;
    }

    int frame(int front, int rest) {
        return called().frame(front, rest);
    }

    int peek(int k) {
        return called().peek(k);
    }

    boolean take() {
        return called().take();
    }

    void tick() {
        called().tick();
    }

    void cut(int number) {
        called().cut(number);
    }

    void restart() {
        called().restart();
    }

    int flash(int at) {
        return called().flash(at);
    }

    int word(int at) {
        return called().word(at);
    }

    int state(int what) {
        return called().state(what);
    }

    /** The object itself, for tests that look inside it. */
    TwinLoader itself() {
        return inner;
    }
}
