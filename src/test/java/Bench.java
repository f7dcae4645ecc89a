import java.util.ArrayList;
import java.util.List;

/** A unit under test, spoken to in bytes, and a count of the answers that were wrong. */
final class Bench {
    private static int wrong = 0;
    private static String sentence = "";

    /** The sum of the image 0, 1, .., 31, as the document's own test has it. */
    static final int FIRST_SUM = 0x23B3;

    /** What state(0) to state(8) answer after the first booting. */
    static final int[] BOOTED = {0, 1, 0, -1, 0, -1, 0, 0, 0};

    final Unit unit = new Unit();

    /** A unit in session 2, still locked. */
    static Bench inSessionTwo() {
        Bench b = new Bench();
        b.askDue("80 2", 16, 2);
        return b;
    }

    /** A unit in session 2, unlocked. */
    static Bench unlocked() {
        Bench b = new Bench();
        b.unlock();
        return b;
    }

    /** A unit whose slot 1 runs, with serial 2, in session 2 and unlocked. */
    static Bench onSlotOne() {
        Bench b = unlocked();
        b.release(1, 5, 6);
        b.unit.restart();
        due("the slot that runs", b.unit.state(0), 1);
        b.unlock();
        return b;
    }

    /**
     * Begins the test of these words of the document, which a wrong answer then
     * names. SentencesTest holds them against the document.
     */
    static void says(String words) {
        sentence = words;
    }

    static void due(String what, long got, long want) {
        due(what, Long.toString(got), Long.toString(want));
    }

    static void due(String what, boolean got, boolean want) {
        due(what, got ? 1 : 0, want ? 1 : 0);
    }

    static void due(String what, String got, String want) {
        if (!got.equals(want)) {
            wrong++;
            System.out.println(what + " answered [" + got + "], due is [" + want + "]");
            System.out.print(sentence.isEmpty() ? "" : "    for: " + sentence + "\n");
        }
    }

    /** Ends the test, with exit code 1 if an answer was wrong. */
    static void end() {
        System.out.println(wrong == 0 ? "all answers are as due" : wrong + " answers are not as due");
        if (wrong != 0) {
            System.exit(1);
        }
    }

    /** Sends one frame of up to eight bytes. */
    int frame(int... bytes) {
        int[] all = new int[8];
        System.arraycopy(bytes, 0, all, 0, bytes.length);
        int front = all[0] << 24 | all[1] << 16 | all[2] << 8 | all[3];
        int rest = all[4] << 24 | all[5] << 16 | all[6] << 8 | all[7];
        return unit.frame(front, rest);
    }

    /** Sends a request as frames; what waits to be taken grows. */
    void send(int... request) {
        if (request.length <= 7) {
            int[] bytes = new int[8];
            bytes[0] = request.length;
            System.arraycopy(request, 0, bytes, 1, request.length);
            frame(bytes);
            return;
        }
        int[] bytes = {16, request.length, 0, 0, 0, 0, 0, 0};
        System.arraycopy(request, 0, bytes, 2, 6);
        frame(bytes);
        int sent = 6;
        for (int number = 1; sent < request.length; number++) {
            int count = Math.min(7, request.length - sent);
            bytes = new int[8];
            bytes[0] = 32 + number % 16;
            System.arraycopy(request, sent, bytes, 1, count);
            frame(bytes);
            sent += count;
        }
    }

    /** All eight bytes of the first frame that waits, which is taken; "none" if none waits. */
    String taken() {
        StringBuilder text = new StringBuilder();
        for (int k = 0; k < 8; k++) {
            text.append(k == 0 ? "" : " ").append(unit.peek(k));
        }
        return unit.take() ? text.toString() : "none";
    }

    /** Takes all frames that wait. */
    void empty() {
        for (int k = 0; k < 100 && unit.take(); k++) {
            continue;
        }
    }

    /** The answer's bytes to a request, from an empty row; "" if there is no answer. */
    String ask(int... request) {
        empty();
        send(request);
        return readAnswer();
    }

    /** What state(0) and those behind it answer. */
    void statesDue(String when, int... want) {
        for (int what = 0; what < want.length; what++) {
            due("state(" + what + ") " + when, unit.state(what), want[what]);
        }
    }

    void askDue(String want, int... request) {
        due("the request " + text(request), ask(request), want);
    }

    private String readAnswer() {
        List<Integer> bytes = new ArrayList<>();
        int length = 0;
        for (int k = 0; k < 100 && unit.peek(0) != TwinLoader.NONE; k++) {
            int kind = unit.peek(0);
            if (kind <= 7) {
                length = kind;
                addBytes(bytes, 1, length);
            } else if (kind == 16) {
                length = unit.peek(1);
                addBytes(bytes, 2, length);
                frame(48, 0);
            } else if (kind < 48) {
                addBytes(bytes, 1, length);
            }
            unit.take();
        }
        int[] answer = new int[bytes.size()];
        for (int k = 0; k < answer.length; k++) {
            answer[k] = bytes.get(k);
        }
        return text(answer);
    }

    private void addBytes(List<Integer> bytes, int from, int length) {
        for (int k = from; k < 8 && bytes.size() < length; k++) {
            bytes.add(unit.peek(k));
        }
    }

    static String text(int... bytes) {
        StringBuilder text = new StringBuilder();
        for (int k = 0; k < bytes.length; k++) {
            text.append(k == 0 ? "" : " ").append(bytes[k]);
        }
        return text.toString();
    }

    void ticks(int count) {
        for (int k = 0; k < count; k++) {
            unit.tick();
        }
    }

    /** Goes to session 2 and unlocks. */
    void unlock() {
        askDue("80 2", 16, 2);
        askDue("103 2", 39, 2, keyFor(seed()));
        empty();
    }

    /** A new seed; -1 if it is refused. */
    int seed() {
        String answer = ask(39, 1);
        return answer.startsWith("103 1 ") ? Integer.parseInt(answer.substring(6)) : -1;
    }

    static int keyFor(int seed) {
        return (5 * seed + 3) % 256;
    }

    /** Has a seed given and answers it by a wrong key. */
    void wrongKeyDue(String want) {
        askDue(want, 39, 2, keyFor(seed()) ^ 1);
    }

    /** Erases a slot and loads an image (up to 32 bytes) into it. */
    void load(int slot, int... image) {
        askDue("113 1 1", 49, 1, 1, slot);
        askDue("116 8", 52, slot, image.length);
        int sent = 0;
        for (int block = 1; sent < image.length; block++) {
            int count = Math.min(8, image.length - sent);
            int[] request = new int[2 + count];
            request[0] = 54;
            request[1] = block;
            System.arraycopy(image, sent, request, 2, count);
            askDue("118 " + block, request);
            sent += count;
        }
        askDue("119", 55);
    }

    /** Has the sum of a slot's image checked, which must be right. */
    void check(int slot) {
        int sum = sumOfSlot(slot);
        askDue("113 1 2 1", 49, 1, 2, slot, sum >> 8, sum & 255);
    }

    /** Loads a slot, checks it and makes it good. */
    void release(int slot, int... image) {
        load(slot, image);
        check(slot);
        askDue("113 1 3", 49, 1, 3, slot);
    }

    int sumOfSlot(int slot) {
        int[] image = new int[32];
        for (int k = 0; k < 32; k++) {
            image[k] = unit.flash(48 * slot + k);
        }
        return sum(image);
    }

    /** The document's sum, worked out bit by bit as the rest of a long division. */
    static int sum(int... image) {
        int rest = 0xFFFF;
        for (int value : image) {
            for (int bit = 7; bit >= 0; bit--) {
                boolean carry = (rest >> 15 & 1) != (value >> bit & 1);
                rest = rest << 1 & 0xFFFF;
                rest = carry ? rest ^ 0x1021 : rest;
            }
        }
        return rest;
    }

    /** The bytes of the flash from one to before another. */
    String flash(int from, int to) {
        int[] bytes = new int[to - from];
        for (int at = from; at < to; at++) {
            bytes[at - from] = unit.flash(at);
        }
        return text(bytes);
    }

    static String repeated(int value, int count) {
        int[] bytes = new int[count];
        java.util.Arrays.fill(bytes, value);
        return text(bytes);
    }
}
