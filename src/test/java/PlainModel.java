import java.util.ArrayDeque;
import java.util.ArrayList;
import java.util.Arrays;
import java.util.List;

/**
 * The document once more, sentence by sentence and with no thought of cost, so
 * that long runs of the program can be held against it.
 */
final class PlainModel {
    /** A power cut amidst the work on a request. */
    private static final class PowerCut extends RuntimeException {
        private static final long serialVersionUID = 1L;
    }

    /** A negative answer's code. */
    private static final class Refused extends RuntimeException {
        private static final long serialVersionUID = 1L;
        final int code;

        Refused(int code) {
            this.code = code;
        }
    }

    private static final List<Integer> SERVICES = List.of(16, 62, 17, 39, 34, 46, 49, 52, 54, 55);
    private static final List<Integer> IN_SESSION_TWO = List.of(39, 46, 49, 52, 54, 55);
    private static final List<Integer> UNLOCKED_ONLY = List.of(46, 49, 52, 54, 55);

    private final boolean[][] bits = new boolean[96][8];
    private final ArrayDeque<int[]> row = new ArrayDeque<>();
    private Integer runs;
    private int session;
    private boolean unlocked;
    private Integer checked;
    private Integer seed;
    private int seeds = 0;
    private int wrongKeys;
    private int delay;
    private int written;
    private Integer cut;
    private List<Integer> request;
    private int requestLength;
    private int nextNumber;
    private int requestAge;
    private List<Integer> answer;
    private int answerSent;
    private int answerAge;
    private int answerNumber;
    private int quiet;
    private Integer downloadSlot;
    private int downloadSize;
    private List<Integer> downloaded = new ArrayList<>();
    private int blocks;

    PlainModel() {
        for (boolean[] each : bits) {
            Arrays.fill(each, true);
        }
        for (int k = 0; k < 32; k++) {
            set(k, k);
        }
        set(32, 0);
        set(33, 1);
        set(34, sum(0) / 256);
        set(35, sum(0) % 256);
        boot();
        row.clear();
    }

    private void set(int at, int value) {
        for (int b = 0; b < 8; b++) {
            bits[at][b] = (value >> b & 1) == 1;
        }
    }

    private int get(int at) {
        int value = 0;
        for (int b = 0; b < 8; b++) {
            value += bits[at][b] ? 1 << b : 0;
        }
        return value;
    }

    private int sum(int slot) {
        int[] image = new int[32];
        for (int k = 0; k < 32; k++) {
            image[k] = get(48 * slot + k);
        }
        return Bench.sum(image);
    }

    private boolean good(int slot) {
        int at = 48 * slot + 32;
        return get(at) == 0 && get(at + 2) * 256 + get(at + 3) == sum(slot);
    }

    private void boot() {
        runs = null;
        for (int slot = 0; slot < 2; slot++) {
            if (good(slot) && (runs == null || get(48 * slot + 33) > get(48 * runs + 33))) {
                runs = slot;
            }
        }
        session = 1;
        unlocked = false;
        request = null;
        answer = null;
        downloadSlot = null;
        checked = null;
        seed = null;
        wrongKeys = 0;
        delay = 0;
        written = 0;
    }

    private void put(Integer... bytes) {
        int[] frame = new int[8];
        for (int k = 0; k < bytes.length; k++) {
            frame[k] = bytes[k];
        }
        if (row.size() < 12) {
            row.add(frame);
        }
    }

    int frame(int front, int rest) {
        int[] bytes = new int[8];
        for (int k = 0; k < 8; k++) {
            long all = (front & 0xFFFFFFFFL) << 32 | rest & 0xFFFFFFFFL;
            bytes[k] = (int) (all >> 56 - 8 * k & 255);
        }
        if (bytes[0] >= 48 && bytes[0] <= 50) {
            steer(bytes[0], bytes[1]);
        } else if (answer == null) {
            receive(bytes);
        }
        return row.size();
    }

    private void steer(int kind, int count) {
        if (answer == null) {
            return;
        }
        answerAge = 0;
        if (kind == 50) {
            answer = null;
        }
        if (kind != 48) {
            return;
        }
        for (int k = 0; (k < count || count == 0) && answerSent < answer.size(); k++) {
            List<Integer> frame = new ArrayList<>();
            frame.add(32 + answerNumber++ % 16);
            while (frame.size() < 8 && answerSent < answer.size()) {
                frame.add(answer.get(answerSent++));
            }
            put(frame.toArray(new Integer[0]));
        }
        if (answerSent == answer.size()) {
            answer = null;
        }
    }

    private void receive(int[] bytes) {
        int kind = bytes[0];
        if (kind >= 1 && kind <= 7) {
            request = null;
            List<Integer> whole = new ArrayList<>();
            for (int k = 1; k <= kind; k++) {
                whole.add(bytes[k]);
            }
            work(whole);
        } else if (kind == 16 && bytes[1] >= 8 && bytes[1] <= 34) {
            request = new ArrayList<>();
            requestLength = bytes[1];
            requestAge = 0;
            nextNumber = 1;
            for (int k = 2; k < 8; k++) {
                request.add(bytes[k]);
            }
            put(48, 2, 0);
        } else if (kind >= 32 && kind <= 47 && request != null) {
            receiveNext(bytes);
        }
    }

    private void receiveNext(int[] bytes) {
        if (bytes[0] - 32 != nextNumber % 16) {
            request = null;
            return;
        }
        requestAge = 0;
        for (int k = 1; k < 8 && request.size() < requestLength; k++) {
            request.add(bytes[k]);
        }
        if (request.size() == requestLength) {
            List<Integer> whole = request;
            request = null;
            work(whole);
        } else if (nextNumber % 2 == 0) {
            put(48, 2, 0);
        }
        nextNumber++;
    }

    private void work(List<Integer> bytes) {
        quiet = 0;
        List<Integer> reply;
        try {
            reply = replyTo(bytes);
        } catch (Refused refused) {
            reply = List.of(127, bytes.get(0), refused.code);
        } catch (PowerCut powerCut) {
            boot();
            row.clear();
            return;
        }
        if (reply.size() <= 7) {
            List<Integer> frame = new ArrayList<>(reply);
            frame.add(0, reply.size());
            put(frame.toArray(new Integer[0]));
        } else {
            put(16, reply.size(), reply.get(0), reply.get(1), reply.get(2), reply.get(3), reply.get(4), reply.get(5));
            answer = reply;
            answerSent = 6;
            answerAge = 0;
            answerNumber = 1;
        }
        if (reply.get(0) == 81) {
            boot();
        }
    }

    private static void refuseIf(boolean due, int code) {
        if (due) {
            throw new Refused(code);
        }
    }

    private static boolean rightLength(List<Integer> r) {
        int n = r.size();
        switch (r.get(0)) {
            case 39:
                return n >= 2 && n == (r.get(1) == 2 ? 3 : 2);
            case 46:
            case 52:
                return n == 3;
            case 49:
                return n >= 3 && n == (r.get(2) == 2 ? 6 : 4);
            case 54:
                return n >= 3 && n <= 10;
            case 55:
                return n == 1;
            default:
                return n == 2;
        }
    }

    private static boolean knownKind(List<Integer> r) {
        switch (r.get(0)) {
            case 16:
            case 39:
                return r.get(1) == 1 || r.get(1) == 2;
            case 17:
            case 49:
                return r.get(1) == 1;
            case 62:
                return r.get(1) == 0;
            default:
                return true;
        }
    }

    private List<Integer> replyTo(List<Integer> r) {
        int service = r.get(0);
        refuseIf(!SERVICES.contains(service), 17);
        refuseIf(!rightLength(r), 19);
        refuseIf(!knownKind(r), 18);
        refuseIf(session == 1 && IN_SESSION_TWO.contains(service), 127);
        refuseIf(!unlocked && UNLOCKED_ONLY.contains(service), 51);
        switch (service) {
            case 16:
                change(r.get(1));
                return List.of(80, r.get(1));
            case 62:
                return List.of(126, 0);
            case 17:
                return List.of(81, 1);
            case 39:
                return r.get(1) == 1 ? seedReply() : keyReply(r.get(2));
            case 34:
                return readReply(r.get(1));
            case 46:
                refuseIf(r.get(1) != 1, 49);
                written = r.get(2);
                return List.of(110, 1);
            case 49:
                refuseIf(r.get(2) < 1 || r.get(2) > 3 || r.get(3) > 1, 49);
                return r.get(2) == 1 ? erase(r.get(3)) : r.get(2) == 2 ? check(r) : release(r.get(3));
            case 52:
                return begin(r.get(1), r.get(2));
            case 54:
                return block(r.get(1), r.subList(2, r.size()));
            default:
                refuseIf(downloadSlot == null || downloaded.size() < downloadSize, 36);
                downloadSlot = null;
                return List.of(119);
        }
    }

    private void change(int number) {
        session = number;
        unlocked = false;
        seed = null;
        downloadSlot = null;
    }

    private List<Integer> seedReply() {
        seed = null;
        refuseIf(delay != 0, 55);
        if (unlocked) {
            return List.of(103, 1, 0);
        }
        int given = (17 + 73 * seeds++) % 256;
        seed = given == 0 ? null : given;
        return List.of(103, 1, given);
    }

    private List<Integer> keyReply(int key) {
        Integer open = seed;
        seed = null;
        refuseIf(open == null, 36);
        if (key == (5 * open + 3) % 256) {
            unlocked = true;
            wrongKeys = 0;
            return List.of(103, 2);
        }
        wrongKeys++;
        refuseIf(wrongKeys == 1, 53);
        delay = 8;
        wrongKeys = 0;
        throw new Refused(54);
    }

    private List<Integer> readReply(int what) {
        refuseIf(what > 2, 49);
        refuseIf(what != 1 && runs == null, 34);
        List<Integer> reply = new ArrayList<>(List.of(98, what));
        if (what < 2) {
            reply.add(what == 0 ? runs : Integer.valueOf(written));
            return reply;
        }
        for (int k = 0; k < 8; k++) {
            reply.add(get(48 * runs + k));
        }
        return reply;
    }

    private boolean running(int slot) {
        return runs != null && runs == slot;
    }

    /** Changes bytes of the flash, and tells whether it was torn by throwing. */
    private void alter(int at, boolean set, List<Integer> values) {
        for (int k = 0; k < values.size(); k++) {
            for (int b = 0; b < 8; b++) {
                boolean named = set || (values.get(k) >> b & 1) == 0;
                boolean reached = cut == null || (cut >>> (8 * k + b) % 32 & 1) == 1;
                if (named && reached) {
                    bits[at + k][b] = set;
                }
            }
        }
        if (cut != null) {
            cut = null;
            throw new PowerCut();
        }
    }

    private List<Integer> erase(int slot) {
        refuseIf(running(slot), 34);
        checked = null;
        List<Integer> sector = java.util.Collections.nCopies(16, 0);
        alter(48 * slot + 32, true, sector);
        alter(48 * slot, true, sector);
        alter(48 * slot + 16, true, sector);
        return List.of(113, 1, 1);
    }

    private List<Integer> check(List<Integer> r) {
        int slot = r.get(3);
        boolean right = sum(slot) == r.get(4) * 256 + r.get(5);
        if (right) {
            checked = slot;
        } else if (checked != null && checked == slot) {
            checked = null;
        }
        return List.of(113, 1, 2, right ? 1 : 0);
    }

    private List<Integer> release(int slot) {
        refuseIf(running(slot) || checked == null || checked != slot, 34);
        int serial = 0;
        for (int each = 0; each < 2; each++) {
            serial = good(each) ? Math.max(serial, get(48 * each + 33)) : serial;
        }
        int sum = sum(slot);
        alter(48 * slot + 33, false, List.of((serial + 1) % 256, sum / 256, sum % 256));
        alter(48 * slot + 32, false, List.of(0));
        return List.of(113, 1, 3);
    }

    private List<Integer> begin(int slot, int size) {
        refuseIf(slot > 1 || size < 1 || size > 32, 49);
        refuseIf(running(slot), 34);
        downloadSlot = slot;
        downloadSize = size;
        downloaded = new ArrayList<>();
        blocks = 0;
        checked = null;
        return List.of(116, 8);
    }

    private List<Integer> block(int number, List<Integer> bytes) {
        refuseIf(downloadSlot == null || downloaded.size() == downloadSize, 36);
        if (blocks > 0 && number == blocks % 256) {
            return List.of(118, number);
        }
        refuseIf(number != (blocks + 1) % 256, 115);
        refuseIf(bytes.size() > downloadSize - downloaded.size(), 49);
        int at = 48 * downloadSlot + downloaded.size();
        alter(at, false, bytes);
        downloaded.addAll(bytes);
        blocks++;
        for (int k = 0; k < bytes.size(); k++) {
            refuseIf(get(at + k) != bytes.get(k), 114);
        }
        return List.of(118, number);
    }

    int peek(int k) {
        return k < 0 || k > 7 || row.isEmpty() ? -1 : row.peekFirst()[k];
    }

    boolean take() {
        return row.pollFirst() != null;
    }

    void tick() {
        requestAge++;
        answerAge++;
        quiet++;
        if (request != null && requestAge == 4) {
            request = null;
        }
        if (answer != null && answerAge == 4) {
            answer = null;
        }
        if (session == 2 && quiet >= 10 && request == null && answer == null) {
            change(1);
        }
        delay = Math.max(0, delay - 1);
    }

    void cut(int number) {
        cut = number;
    }

    void restart() {
        boot();
        row.clear();
    }

    int flash(int at) {
        return at < 0 || at > 95 ? -1 : get(at);
    }

    int word(int at) {
        if (at < 0 || at > 92) {
            return 0;
        }
        return (int) (((get(at) * 256L + get(at + 1)) * 256 + get(at + 2)) * 256 + get(at + 3));
    }

    int state(int what) {
        Integer[] all = {
            runs, session, unlocked ? 1 : 0,
            downloadSlot == null ? null : Integer.valueOf(downloadSize - downloaded.size()),
            cut == null ? 0 : 1, checked,
            request == null ? 0 : requestLength - request.size(),
            answer == null ? 0 : answer.size() - answerSent, delay};
        return what < 0 || what >= all.length || all[what] == null ? -1 : all[what];
    }

    /** What a caller would need for the right key: the seed that is open, or 0. */
    int openSeed() {
        return seed == null ? 0 : seed;
    }

    /** The number that the next block of a download must have. */
    int nextBlock() {
        return blocks + 1;
    }

    int sumOf(int slot) {
        return sum(slot);
    }

    int nextFrameNumber() {
        return nextNumber % 16;
    }
}
