import java.util.Random;

/**
 * All promises: runs of calls, always the same ones, against the plain model.
 * Most of a run's steps are sensible ones, since chance alone would never unlock.
 */
public final class ModelTest {
    private static final int RUNS = 3000;
    private static final int CALLS = 512;
    private static final int[] EDGES = {0, 1, 2, 3, 7, 8, 9, 31, 32, 33, 127, 128, 254, 255};
    private static final int[] SERVICES = {16, 17, 34, 39, 46, 49, 52, 54, 55, 62};

    private final Random random;
    private final TwinLoader unit = new TwinLoader();
    private final PlainModel model = new PlainModel();
    private final int run;
    private int calls;
    private boolean same = true;

    private ModelTest(int run) {
        this.run = run;
        random = new Random(run);
    }

    public static void main(String[] args) {
        for (int run = 0; run < RUNS; run++) {
            new ModelTest(run).go();
        }
        Bench.end();
    }

    private void go() {
        while (calls < CALLS && same) {
            step();
        }
    }

    /** Holds one answer against the model's; a run ends with its first difference. */
    private void due(String call, int got, int want) {
        calls++;
        if (same && calls <= CALLS) {
            Bench.due("run " + run + ", call " + calls + ": " + call, got, want);
            same = got == want;
        }
    }

    private int edge() {
        return random.nextInt(4) == 0 ? random.nextInt(256) : EDGES[random.nextInt(EDGES.length)];
    }

    private void step() {
        switch (random.nextInt(20)) {
            case 0:
            case 1:
                ticks(1 + random.nextInt(random.nextInt(6) == 0 ? 12 : 3));
                break;
            case 2:
                takeSome();
                break;
            case 3:
                lookAround();
                break;
            case 4:
                if (random.nextInt(4) == 0) {
                    orderCut();
                }
                break;
            case 5:
                if (random.nextInt(6) == 0) {
                    restart();
                }
                break;
            case 6:
                frame(edge(), edge(), edge(), edge(), edge(), edge(), edge(), edge());
                break;
            case 7:
                steer();
                break;
            case 8:
                strayRequest();
                break;
            case 9:
                release();
                break;
            default:
                sensibleRequest();
                break;
        }
    }

    private void ticks(int count) {
        for (int k = 0; k < count; k++) {
            unit.tick();
            model.tick();
            calls++;
        }
        due("state(1)", unit.state(1), model.state(1));
    }

    private void takeSome() {
        for (int k = random.nextInt(6); k >= 0; k--) {
            for (int at = 0; at < 8; at++) {
                due("peek(" + at + ")", unit.peek(at), model.peek(at));
            }
            due("take()", unit.take() ? 1 : 0, model.take() ? 1 : 0);
        }
    }

    private void lookAround() {
        for (int what = -1; what <= 9; what++) {
            due("state(" + what + ")", unit.state(what), model.state(what));
        }
        for (int at = random.nextInt(4); at < 97; at += 1 + random.nextInt(20)) {
            due("word(" + at + ")", unit.word(at), model.word(at));
            due("flash(" + at + ")", unit.flash(at), model.flash(at));
        }
    }

    private void orderCut() {
        int number = random.nextInt(3) == 0 ? 0xFF << 8 * random.nextInt(4) : random.nextInt();
        unit.cut(number);
        model.cut(number);
        calls++;
    }

    private void restart() {
        unit.restart();
        model.restart();
        calls++;
    }

    private void steer() {
        frame(48 + random.nextInt(3), random.nextInt(3));
    }

    private void frame(int... bytes) {
        int[] all = new int[8];
        for (int k = 0; k < 8; k++) {
            all[k] = k < bytes.length ? bytes[k] : random.nextInt(256);
        }
        int front = all[0] << 24 | all[1] << 16 | all[2] << 8 | all[3];
        int rest = all[4] << 24 | all[5] << 16 | all[6] << 8 | all[7];
        due("frame(" + Bench.text(all) + ")", unit.frame(front, rest), model.frame(front, rest));
        int what = random.nextInt(9);
        due("state(" + what + ")", unit.state(what), model.state(what));
    }

    private void request(int... bytes) {
        if (model.state(7) > 0 && random.nextInt(3) > 0) {
            frame(48, 0);
        }
        if (bytes.length <= 7) {
            int[] whole = new int[bytes.length + 1];
            whole[0] = bytes.length;
            System.arraycopy(bytes, 0, whole, 1, bytes.length);
            frame(whole);
            return;
        }
        frame(16, bytes.length, bytes[0], bytes[1], bytes[2], bytes[3], bytes[4], bytes[5]);
        int sent = 6;
        for (int k = 1; sent < bytes.length; k++) {
            ticks(random.nextInt(12) == 0 ? 4 : random.nextInt(2));
            int[] next = new int[8];
            next[0] = 32 + (random.nextInt(15) == 0 ? random.nextInt(16) : model.nextFrameNumber());
            for (int at = 1; at < 8 && sent < bytes.length; at++) {
                next[at] = bytes[sent++];
            }
            frame(next);
        }
    }

    private void strayRequest() {
        int[] bytes = new int[1 + random.nextInt(random.nextInt(4) == 0 ? 34 : 7)];
        for (int k = 0; k < bytes.length; k++) {
            bytes[k] = edge();
        }
        bytes[0] = random.nextInt(5) == 0 ? bytes[0] : SERVICES[random.nextInt(SERVICES.length)];
        request(bytes);
    }

    private void unlock() {
        if (model.state(1) == 1) {
            request(16, 2);
        } else if (model.openSeed() == 0) {
            request(39, 1);
        } else {
            request(39, 2, 5 * model.openSeed() + (random.nextInt(5) == 0 ? 4 : 3) & 255);
        }
    }

    private void sensibleRequest() {
        if (model.state(2) == 0) {
            unlock();
            return;
        }
        int slot = random.nextInt(8) == 0 ? random.nextInt(2) : 1 - model.state(0);
        switch (random.nextInt(12)) {
            case 0:
                request(49, 1, 1, slot);
                break;
            case 1:
                check(random.nextInt(4) == 0 ? random.nextInt(2) : slot);
                break;
            case 2:
                request(49, 1, 3, slot);
                break;
            case 3:
                request(46, 1, edge());
                break;
            case 4:
                request(34, random.nextInt(3));
                break;
            case 5:
                if (random.nextInt(3) == 0) {
                    request(17, 1);
                }
                break;
            case 6:
                request(62, 0);
                break;
            default:
                load(slot);
                break;
        }
    }

    private void check(int slot) {
        int sum = model.sumOf(slot) ^ (random.nextInt(5) == 0 ? 1 << random.nextInt(16) : 0);
        request(49, 1, 2, slot, sum >> 8, sum & 255);
    }

    private void load(int slot) {
        int toCome = model.state(3);
        if (toCome == 0) {
            request(random.nextInt(4) == 0 ? 54 : 55);
        } else if (toCome < 0 || random.nextInt(20) == 0) {
            request(52, slot, 1 + random.nextInt(32));
        } else {
            int most = random.nextInt(10) == 0 ? 8 : Math.min(8, toCome);
            int[] bytes = new int[3 + random.nextInt(most)];
            bytes[0] = 54;
            bytes[1] = model.nextBlock() - (random.nextInt(6) == 0 ? random.nextInt(3) : 0) & 255;
            for (int k = 2; k < bytes.length; k++) {
                bytes[k] = edge();
            }
            request(bytes);
        }
    }

    /** The whole way to a slot that boots, which single steps seldom go to the end. */
    private void release() {
        for (int k = 0; k < 4 && model.state(2) == 0; k++) {
            unlock();
        }
        int slot = 1 - model.state(0);
        if (random.nextInt(3) > 0) {
            request(49, 1, 1, slot);
        }
        check(slot);
        request(49, 1, 3, slot);
        if (random.nextInt(2) == 0) {
            restart();
        }
        lookAround();
    }
}
