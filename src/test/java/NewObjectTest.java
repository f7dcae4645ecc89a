/** Promise 1, and the flash at first. */
public final class NewObjectTest {
    public static void main(String[] args) {
        theFlashAtFirst();
        aNewObject();
        itBootsAtFirst();
        objectsAreApart();
        Bench.end();
    }

    private static void theFlashAtFirst() {
        Bench.says("At first all bytes are 255, but slot 0: byte k of its image is k, its mark is 0,"
                + " its serial 1, its sum right.");
        Bench b = new Bench();
        for (int k = 0; k < 32; k++) {
            Bench.due("byte " + k + " of the image of slot 0", b.unit.flash(k), k);
        }
        Bench.due("the mark", b.unit.flash(32), 0);
        Bench.due("the serial", b.unit.flash(33), 1);
        Bench.due("the sum", b.flash(34, 36), "35 179");
        Bench.due("what is behind the header's four bytes", b.flash(36, 48), Bench.repeated(255, 12));
        Bench.due("slot 1", b.flash(48, 96), Bench.repeated(255, 48));
    }

    private static void aNewObject() {
        Bench.says("The flash as at first; it boots.");
        Bench b = new Bench();
        b.statesDue("of a new object", Bench.BOOTED);
        Bench.due("what is taken", b.taken(), "none");
    }

    private static void itBootsAtFirst() {
        Bench.says("It boots at first.");
        Bench b = new Bench();
        Bench.due("the slot that runs", b.unit.state(0), 0);
        Bench.due("the session", b.unit.state(1), 1);
        b.askDue("98 0 0", 34, 0);
        b.askDue("98 1 0", 34, 1);
        b.askDue("98 2 0 1 2 3 4 5 6 7", 34, 2);
        b.askDue("127 55 127", 55);
    }

    private static void objectsAreApart() {
        Bench.says("The flash as at first; it boots.");
        Bench one = new Bench();
        Bench other = new Bench();
        one.unlock();
        one.release(1, 9, 8, 7);
        one.unit.cut(5);
        other.statesDue("of the other object", Bench.BOOTED);
        Bench.due("the other's flash", other.flash(48, 84), Bench.repeated(255, 36));
        other.askDue("80 2", 16, 2);
        other.askDue("103 1 17", 39, 1);
        Bench third = new Bench();
        third.statesDue("of an object made later", Bench.BOOTED);
        Bench.due("its flash", third.flash(48, 84), Bench.repeated(255, 36));
    }
}
