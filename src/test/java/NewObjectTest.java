/** Promise 1, and what BOOTING and FLASH say of the beginning. */
public final class NewObjectTest {
    public static void main(String[] args) {
        theFlashIsAsAtFirst();
        itHasBooted();
        objectsAreApart();
        Bench.end();
    }

    private static void theFlashIsAsAtFirst() {
        Bench b = new Bench();
        for (int k = 0; k < 32; k++) {
            Bench.due("flash(" + k + ")", b.unit.flash(k), k);
        }
        Bench.due("the header of slot 0", b.flash(32, 48), "0 1 35 179 " + Bench.repeated(255, 12));
        Bench.due("the sum of slot 0", b.sumOfSlot(0), Bench.FIRST_SUM);
        Bench.due("slot 1", b.flash(48, 96), Bench.repeated(255, 48));
    }

    private static void itHasBooted() {
        TwinLoader unit = new TwinLoader();
        int[] want = {0, 1, 0, -1, 0, -1, 0, 0, 0};
        for (int what = 0; what < want.length; what++) {
            Bench.due("state(" + what + ")", unit.state(what), want[what]);
        }
        Bench.due("peek(0)", unit.peek(0), TwinLoader.NONE);
        Bench.due("take()", unit.take(), false);
        Bench b = new Bench();
        b.askDue("98 0 0", 34, 0);
        b.askDue("98 1 0", 34, 1);
        b.askDue("98 2 0 1 2 3 4 5 6 7", 34, 2);
    }

    private static void objectsAreApart() {
        Bench one = new Bench();
        Bench other = new Bench();
        one.unlock();
        one.release(1, 9, 8, 7);
        one.unit.cut(5);
        Bench.due("the other's state(1)", other.unit.state(1), 1);
        Bench.due("the other's state(4)", other.unit.state(4), 0);
        Bench.due("the other's flash", other.unit.flash(48), 255);
        other.askDue("80 2", 16, 2);
        other.askDue("103 1 17", 39, 1);
    }
}
