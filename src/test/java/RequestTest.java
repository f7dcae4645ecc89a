/** REQUESTS 16, 62, 17, 34 and 46. */
public final class RequestTest {
    public static void main(String[] args) {
        sessions();
        presence();
        reset();
        resetWithAFullRow();
        resetKeepsAnOrderedCut();
        refusedResets();
        readingOutOfRange();
        readingTheSlot();
        readingTheByte();
        readingTheImage();
        storingElsewhere();
        storing();
        Bench.end();
    }

    private static void sessions() {
        Bench.says("16 n (n 1, 2): the session changes to n; 80 n.");
        for (int from = 1; from <= 2; from++) {
            for (int to = 1; to <= 2; to++) {
                Bench b = new Bench();
                b.askDue("80 " + from, 16, from);
                Bench.due("the session", b.unit.state(1), from);
                b.askDue("80 " + to, 16, to);
                Bench.due("the session", b.unit.state(1), to);
                b.askDue("127 16 18", 16, 0);
                b.askDue("127 16 18", 16, 3);
                Bench.due("the session", b.unit.state(1), to);
            }
        }
    }

    private static void presence() {
        Bench.says("62 0: 126 0.");
        Bench b = new Bench();
        b.askDue("126 0", 62, 0);
        b.askDue("127 62 18", 62, 1);
        b.askDue("127 62 18", 62, 128);
        b.statesDue("after 62 0", Bench.BOOTED);
    }

    private static void reset() {
        Bench.says("17 1: 81 1; then the unit boots, but the frames that wait (this answer too) stay.");
        Bench b = Bench.unlocked();
        b.release(1, 50, 51, 52);
        b.askDue("116 8", 52, 1, 4);
        b.check(1);
        b.askDue("110 1", 46, 1, 99);
        b.empty();
        b.send(62, 0);
        Bench.due("17 1", b.frame(2, 17, 1), 2);
        b.statesDue("after 17 1", 1, 1, 0, -1, 0, -1, 0, 0, 0);
        Bench.due("a frame that waited", b.taken(), "2 126 0 0 0 0 0 0");
        Bench.due("the answer", b.taken(), "2 81 1 0 0 0 0 0");
        Bench.due("what is behind it", b.taken(), "none");
        b.askDue("98 1 0", 34, 1);
        b.askDue("80 2", 16, 2);
        b.askDue("103 1 90", 39, 1);
    }

    private static void resetWithAFullRow() {
        Bench.says("17 1: 81 1; then the unit boots, but the frames that wait (this answer too) stay.");
        Bench b = Bench.inSessionTwo();
        b.empty();
        for (int k = 0; k < 12; k++) {
            b.frame(2, 62, 0);
        }
        Bench.due("17 1 with a full row", b.frame(2, 17, 1), 12);
        Bench.due("the session", b.unit.state(1), 1);
        for (int k = 0; k < 12; k++) {
            Bench.due("a frame that waited", b.taken(), "2 126 0 0 0 0 0 0");
        }
        Bench.due("the answer, which is lost", b.taken(), "none");
    }

    private static void resetKeepsAnOrderedCut() {
        Bench.says("17 1: 81 1; then the unit boots, but the frames that wait (this answer too) stay.");
        Bench b = new Bench();
        b.unit.cut(0);
        b.askDue("81 1", 17, 1);
        Bench.due("whether a cut is ordered", b.unit.state(4), 1);
    }

    private static void refusedResets() {
        Bench.says("17 1: 81 1; then the unit boots, but the frames that wait (this answer too) stay.");
        Bench b = Bench.unlocked();
        int[] kinds = {0, 2, 3, 255};
        for (int kind : kinds) {
            b.askDue("127 17 18", 17, kind);
        }
        b.askDue("127 17 19", 17);
        b.askDue("127 17 19", 17, 1, 1);
        b.statesDue("after refused resets", 0, 2, 1, -1, 0, -1, 0, 0, 0);
    }

    private static void readingOutOfRange() {
        Bench.says("34 d: 49 if d isn't 0 .. 2.");
        Bench b = new Bench();
        for (int what = 0; what < 256; what++) {
            b = what % 16 == 0 ? new Bench() : b;
            boolean refused = b.ask(34, what).equals("127 34 49");
            Bench.due("34 " + what + " is refused by 49", refused, what > 2);
        }
    }

    private static void readingTheSlot() {
        Bench.says("0: 98 0 r, r the slot that runs;");
        Bench b = Bench.unlocked();
        b.askDue("98 0 0", 34, 0);
        b.release(1, 50, 51, 52);
        b.askDue("98 0 0", 34, 0);
        b.unit.restart();
        b.askDue("98 0 1", 34, 0);
    }

    private static void readingTheByte() {
        Bench.says("1: 98 1 v, v the byte that was written;");
        Bench b = Bench.unlocked();
        b.askDue("98 1 0", 34, 1);
        int[] values = {255, 128, 1, 0};
        for (int value : values) {
            b.askDue("110 1", 46, 1, value);
            b.askDue("98 1 " + value, 34, 1);
        }
    }

    private static void readingTheImage() {
        Bench.says("2: 98 2 and the first 8 bytes of the image that runs.");
        Bench b = Bench.unlocked();
        b.askDue("98 2 0 1 2 3 4 5 6 7", 34, 2);
        b.release(1, 201, 202, 203, 204, 205, 206, 207, 208, 209);
        b.askDue("98 2 0 1 2 3 4 5 6 7", 34, 2);
        b.unit.restart();
        b.askDue("98 2 201 202 203 204 205 206 207 208", 34, 2);
        b.unlock();
        b.release(0, 101, 102, 103, 104, 105, 106, 107, 108, 109);
        b.unit.restart();
        b.askDue("98 2 101 102 103 104 105 106 107 108", 34, 2);
    }

    private static void storingElsewhere() {
        Bench.says("46 d v: 49 if d isn't 1;");
        for (int what = 0; what < 256; what++) {
            Bench b = Bench.unlocked();
            b.askDue("110 1", 46, 1, 5);
            b.askDue(what == 1 ? "110 1" : "127 46 49", 46, what, 77);
            b.askDue(what == 1 ? "98 1 77" : "98 1 5", 34, 1);
        }
    }

    private static void storing() {
        Bench.says("v is written; 110 1.");
        Bench b = Bench.unlocked();
        String all = b.flash(0, 96);
        b.unit.cut(-1);
        int[] values = {13, 255, 0, 13};
        for (int value : values) {
            b.askDue("110 1", 46, 1, value);
            b.askDue("98 1 " + value, 34, 1);
        }
        Bench.due("whether the cut is still ordered", b.unit.state(4), 1);
        Bench.due("the flash", b.flash(0, 96), all);
    }
}
