import java.util.Random;

/** No call may throw, for any arguments in any state, nor may its answer leave its range. */
public final class AnyCallTest {
    private static final int[] ODD = {0, 1, -1, 95, 96, 255, 256, Integer.MIN_VALUE, Integer.MAX_VALUE};

    public static void main(String[] args) {
        for (int run = 0; run < 400; run++) {
            try {
                go(new TwinLoader(), new Random(run));
            } catch (RuntimeException thrown) {
                Bench.due("run " + run + " threw " + thrown, 1, 0);
            }
        }
        Bench.end();
    }

    /** Longer than the document's limit: answers are free there, exceptions are not. */
    private static void go(TwinLoader unit, Random random) {
        for (int call = 0; call < 2000; call++) {
            step(unit, random);
        }
    }

    private static int any(Random random) {
        return random.nextBoolean() ? ODD[random.nextInt(ODD.length)] : random.nextInt();
    }

    /** Front bytes that mostly begin a frame which does something. */
    private static int anyFront(Random random) {
        int[] kinds = {1, 2, 3, 4, 5, 6, 7, 16, 33, 34, 35, 36, 48, 49, 50, 255};
        int[] seconds = {8, 9, 16, 17, 34, 39, 46, 49, 52, 54, 55, 62};
        int kind = kinds[random.nextInt(kinds.length)];
        return kind << 24 | seconds[random.nextInt(seconds.length)] << 16
                | random.nextInt(4) << 8 | random.nextInt(4);
    }

    private static void step(TwinLoader unit, Random random) {
        switch (random.nextInt(10)) {
            case 0:
                unit.tick();
                break;
            case 1:
                unit.cut(any(random));
                break;
            case 2:
                if (random.nextInt(10) == 0) {
                    unit.restart();
                }
                break;
            case 3:
                inRange("peek", unit.peek(any(random)), -1, 255);
                unit.take();
                break;
            case 4:
                inRange("flash", unit.flash(any(random)), -1, 255);
                unit.word(any(random));
                break;
            case 5:
                inRange("state", unit.state(random.nextInt(11) - 1), -1, 32);
                unit.state(any(random));
                break;
            default:
                int front = random.nextInt(5) == 0 ? any(random) : anyFront(random);
                inRange("frame", unit.frame(front, any(random)), 0, 12);
                break;
        }
    }

    private static void inRange(String call, int got, int least, int most) {
        if (got < least || got > most) {
            Bench.due(call, got, least);
        }
    }
}
