/**
 * A control unit that is loaded anew over frames of eight bytes. What it must
 * do stands in the document as promises. All rows are made by the constructors
 * and used again, since all calls of a run share one small room.
 */
public final class TwinLoader {
    /** Nothing there. */
    public static final int NONE = -1;

    // The services.
    private static final int CHANGE_SESSION = 16;
    private static final int RESET = 17;
    private static final int READ = 34;
    private static final int UNLOCK = 39;
    private static final int STORE = 46;
    private static final int ROUTINE = 49;
    private static final int BEGIN_DOWNLOAD = 52;
    private static final int BLOCK = 54;
    private static final int END_DOWNLOAD = 55;
    private static final int PRESENT = 62;

    // An answer begins with the service and POSITIVE, or with NEGATIVE.
    private static final int POSITIVE = 64;
    private static final int NEGATIVE = 127;

    // The codes of negative answers.
    private static final int UNKNOWN_SERVICE = 17;
    private static final int UNKNOWN_KIND = 18;
    private static final int WRONG_LENGTH = 19;
    private static final int NOT_NOW = 34;
    private static final int OUT_OF_ORDER = 36;
    private static final int OUT_OF_RANGE = 49;
    private static final int STILL_LOCKED = 51;
    private static final int WRONG_KEY = 53;
    private static final int TOO_MANY_KEYS = 54;
    private static final int DELAYED = 55;
    private static final int BADLY_WRITTEN = 114;
    private static final int WRONG_BLOCK = 115;
    private static final int WRONG_SESSION = 127;

    // How the work on a request ended, if not with one of the codes.
    private static final int DONE = 0;
    private static final int TORN = -1;

    // The frames of a request or an answer that has several.
    private static final int FIRST_FRAME = 16;
    private static final int NEXT_FRAME = 32;
    private static final int FRAME_NUMBERS = 16;

    // The frames that steer the one who sends those.
    private static final int GO_ON = 48;
    private static final int WAIT = 49;
    private static final int DROP = 50;

    private static final int PLAIN_SESSION = 1;
    private static final int LOADING_SESSION = 2;
    private static final int BYTES_OF_FRAME = 8;
    private static final int PATIENCE = 4;
    private static final int QUIET_LIMIT = 10;
    private static final int IMAGE_SIZE = 32;
    private static final int BYTES_READ = 8;
    private static final int BLOCK_LIMIT = 8;

    private final Memory memory;
    private final Row row;
    private final Receiver receiver;
    private final Sender sender;
    private final Lock lock;
    private final Download download;
    private final int[] header;
    private int running;
    private int session;
    private int checked;
    private int stored;
    private int quietTicks;

    public TwinLoader() {
        memory = new Memory();
        receiver = new Receiver();
        sender = new Sender();
        row = sender.row;
        lock = new Lock();
        download = new Download();
        header = new int[3];
        boot();
    }

    public int frame(int front, int rest) {
        int kind = byteOf(front, rest, 0);
        if (kind >= GO_ON && kind <= DROP) {
            steerAnswer(kind, byteOf(front, rest, 1));
        } else if (!sender.waits) {
            int outcome = receiver.accept(front, rest);
            if (outcome == Receiver.ASKS_MORE) {
                sender.askForMore();
            } else if (outcome == Receiver.COMPLETE) {
                workOnRequest();
            }
        }
        return row.count;
    }

    public int peek(int k) {
        if (k < 0 || k >= BYTES_OF_FRAME || row.count == 0) {
            return NONE;
        }
        return row.byteOfFirst(k);
    }

    public boolean take() {
        if (row.count == 0) {
            return false;
        }
        row.dropFirst();
        return true;
    }

    public void tick() {
        receiver.age();
        sender.age();
        quietTicks++;
        if (session == LOADING_SESSION && quietTicks >= QUIET_LIMIT
                && receiver.wanted == 0 && !sender.waits) {
            changeSession(PLAIN_SESSION);
        }
        lock.shortenDelay();
    }

    public void cut(int number) {
        memory.orderCut(number);
    }

    public void restart() {
        bootAfresh();
    }

    public int flash(int at) {
        return memory.has(at, 1) ? memory.cells[at] : NONE;
    }

    public int word(int at) {
        if (!memory.has(at, 4)) {
            return 0;
        }
        int number = 0;
        for (int k = 0; k < 4; k++) {
            number = (number << 8) | memory.cells[at + k];
        }
        return number;
    }

    public int state(int what) {
        switch (what) {
            case 0:
                return running;
            case 1:
                return session;
            case 2:
                return lock.unlocked ? 1 : 0;
            case 3:
                return download.toCome();
            case 4:
                return memory.cutOrdered ? 1 : 0;
            case 5:
                return checked;
            case 6:
                return receiver.wanted;
            case 7:
                return sender.toSend();
            case 8:
                return lock.delay;
            default:
                return NONE;
        }
    }

    private static int byteOf(int front, int rest, int k) {
        int half = k < 4 ? front : rest;
        return (half >>> (24 - 8 * (k & 3))) & 255;
    }

    /** Leaves the row alone: 17 1 boots while its answer waits to be taken. */
    private void boot() {
        running = memory.bestSlot();
        session = PLAIN_SESSION;
        checked = NONE;
        stored = 0;
        quietTicks = 0;
        lock.reset();
        download.end();
        receiver.drop();
        sender.drop();
    }

    private void bootAfresh() {
        boot();
        row.clear();
    }

    private void changeSession(int number) {
        session = number;
        lock.close();
        download.end();
    }

    private void steerAnswer(int kind, int frames) {
        if (!sender.waits) {
            return;
        }
        if (kind == GO_ON) {
            sender.goOn(frames);
        } else if (kind == WAIT) {
            sender.waitAnew();
        } else {
            sender.drop();
        }
    }

    private void workOnRequest() {
        // Before any refusal, since refused requests keep the session on too.
        quietTicks = 0;
        int service = receiver.at(0);
        sender.begin(service + POSITIVE);
        int outcome = refusal(service);
        if (outcome == DONE) {
            outcome = serve(service);
        }
        if (outcome == TORN) {
            bootAfresh();
            return;
        }
        if (outcome != DONE) {
            sender.begin(NEGATIVE);
            sender.add(service);
            sender.add(outcome);
        }
        sender.send();
        if (service == RESET && outcome == DONE) {
            boot();
        }
    }

    /** The first of the common codes that is due, in the document's order. */
    private int refusal(int service) {
        if (!isKnown(service)) {
            return UNKNOWN_SERVICE;
        }
        if (!hasRightLength(service)) {
            return WRONG_LENGTH;
        }
        if (!hasKnownKind(service)) {
            return UNKNOWN_KIND;
        }
        boolean loading = needsUnlocking(service);
        if (session == PLAIN_SESSION && (loading || service == UNLOCK)) {
            return WRONG_SESSION;
        }
        if (loading && !lock.unlocked) {
            return STILL_LOCKED;
        }
        return isInRange(service) ? DONE : OUT_OF_RANGE;
    }

    private static boolean isKnown(int service) {
        return service == CHANGE_SESSION || service == RESET || service == READ
                || service == UNLOCK || service == PRESENT || needsUnlocking(service);
    }

    private static boolean needsUnlocking(int service) {
        return service == STORE || service == ROUTINE || service == BEGIN_DOWNLOAD
                || service == BLOCK || service == END_DOWNLOAD;
    }

    private boolean hasRightLength(int service) {
        int length = receiver.received;
        switch (service) {
            case UNLOCK:
                return length == (receiver.at(1) == 2 ? 3 : 2);
            case STORE:
            case BEGIN_DOWNLOAD:
                return length == 3;
            case ROUTINE:
                return length == (receiver.at(2) == 2 ? 6 : 4);
            case BLOCK:
                return length >= 3 && length <= 2 + BLOCK_LIMIT;
            case END_DOWNLOAD:
                return length == 1;
            default:
                return length == 2;
        }
    }

    private boolean hasKnownKind(int service) {
        int kind = receiver.at(1);
        switch (service) {
            case CHANGE_SESSION:
            case UNLOCK:
                return kind == 1 || kind == 2;
            case RESET:
            case ROUTINE:
                return kind == 1;
            case PRESENT:
                return kind == 0;
            default:
                return true;
        }
    }

    /** Services not named here have no range, or test it later than others. */
    private boolean isInRange(int service) {
        int second = receiver.at(1);
        int third = receiver.at(2);
        switch (service) {
            case READ:
                return second <= 2;
            case STORE:
                return second == 1;
            case ROUTINE:
                return third >= 1 && third <= 3 && receiver.at(3) <= 1;
            case BEGIN_DOWNLOAD:
                return second <= 1 && third >= 1 && third <= IMAGE_SIZE;
            default:
                return true;
        }
    }

    private int serve(int service) {
        switch (service) {
            case CHANGE_SESSION:
                changeSession(receiver.at(1));
                return doneWith(receiver.at(1));
            case UNLOCK:
                return receiver.at(1) == 1 ? giveSeed() : tryKey(receiver.at(2));
            case READ:
                return read(receiver.at(1));
            case STORE:
                stored = receiver.at(2);
                return doneWith(1);
            case ROUTINE:
                return runRoutine(receiver.at(2), receiver.at(3));
            case BEGIN_DOWNLOAD:
                return beginDownload(receiver.at(1), receiver.at(2));
            case BLOCK:
                return takeBlock(receiver.at(1), receiver.received - 2);
            case END_DOWNLOAD:
                return endDownload();
            default:
                // RESET and PRESENT only answer; the booting follows the answer.
                return doneWith(receiver.at(1));
        }
    }

    private int doneWith(int second) {
        sender.add(second);
        return DONE;
    }

    private int giveSeed() {
        // Before the delay is looked at, since a seed isn't open behind any such request.
        lock.takeOpenSeed();
        if (lock.delay != 0) {
            return DELAYED;
        }
        sender.add(1);
        return doneWith(lock.unlocked ? 0 : lock.nextSeed());
    }

    private int tryKey(int key) {
        int seed = lock.takeOpenSeed();
        if (seed == 0) {
            return OUT_OF_ORDER;
        }
        if (key == ((5 * seed + 3) & 255)) {
            lock.open();
            return doneWith(2);
        }
        return lock.countWrongKey() ? TOO_MANY_KEYS : WRONG_KEY;
    }

    private int read(int what) {
        if (what != 1 && running == NONE) {
            return NOT_NOW;
        }
        sender.add(what);
        if (what == 0) {
            return doneWith(running);
        }
        if (what == 1) {
            return doneWith(stored);
        }
        int start = Memory.imageOf(running);
        for (int k = 0; k < BYTES_READ; k++) {
            sender.add(memory.byteAt(start + k));
        }
        return DONE;
    }

    private int runRoutine(int routine, int slot) {
        sender.add(1);
        sender.add(routine);
        if (routine == 1) {
            return eraseSlot(slot);
        }
        return routine == 2 ? checkSlot(slot) : releaseSlot(slot);
    }

    private int eraseSlot(int slot) {
        if (slot == running) {
            return NOT_NOW;
        }
        checked = NONE;
        int first = 3 * slot;
        // The header goes first: a slot whose image is half erased shall not look good.
        boolean whole = memory.erase(first + 2) && memory.erase(first) && memory.erase(first + 1);
        return whole ? DONE : TORN;
    }

    private int checkSlot(int slot) {
        boolean right = memory.sumOf(slot) == 256 * receiver.at(4) + receiver.at(5);
        if (right) {
            checked = slot;
        } else if (checked == slot) {
            checked = NONE;
        }
        return doneWith(right ? 1 : 0);
    }

    private int releaseSlot(int slot) {
        if (slot == running || slot != checked) {
            return NOT_NOW;
        }
        int greatest = Math.max(memory.goodSerial(0), memory.goodSerial(1));
        int sum = memory.sumOf(slot);
        int at = Memory.headerOf(slot);
        header[0] = greatest == NONE ? 1 : (greatest + 1) & 255;
        header[1] = sum >>> 8;
        header[2] = sum & 255;
        if (!memory.write(at + 1, header, 0, 3)) {
            return TORN;
        }
        header[0] = 0;
        return memory.write(at, header, 0, 1) ? DONE : TORN;
    }

    private int beginDownload(int slot, int size) {
        if (slot == running) {
            return NOT_NOW;
        }
        download.begin(slot, size);
        checked = NONE;
        return doneWith(BLOCK_LIMIT);
    }

    private int takeBlock(int number, int size) {
        if (download.toCome() <= 0) {
            return OUT_OF_ORDER;
        }
        if (download.isLatest(number)) {
            return doneWith(number);
        }
        if (!download.isNext(number)) {
            return WRONG_BLOCK;
        }
        if (size > download.toCome()) {
            return OUT_OF_RANGE;
        }
        int at = Memory.imageOf(download.slot) + download.came;
        // Before it is compared, since a block has come even if the flash can't hold it.
        download.addBlock(size);
        if (!memory.write(at, receiver.bytes, 2, size)) {
            return TORN;
        }
        return memory.holds(at, receiver.bytes, 2, size) ? doneWith(number) : BADLY_WRITTEN;
    }

    private int endDownload() {
        if (download.toCome() != 0) {
            return OUT_OF_ORDER;
        }
        download.end();
        return DONE;
    }

    /**
     * The flash, and the power cut that may tear a change of it. Indexes are
     * looked at once more here, though no request leads beyond the flash.
     */
    private static final class Memory {
        private static final int SIZE = 96;
        private static final int SECTOR = 16;
        private static final int SLOT = 3 * SECTOR;

        private final int[] cells;
        private boolean cutOrdered;
        private int cutNumber;

        Memory() {
            cells = new int[SIZE];
            for (int at = 0; at < SIZE; at++) {
                cells[at] = at < IMAGE_SIZE ? at : 255;
            }
            int sum = sumOf(0);
            int at = headerOf(0);
            cells[at] = 0;
            cells[at + 1] = 1;
            cells[at + 2] = sum >>> 8;
            cells[at + 3] = sum & 255;
        }

        static int imageOf(int slot) {
            return slot * SLOT;
        }

        static int headerOf(int slot) {
            return slot * SLOT + IMAGE_SIZE;
        }

        boolean has(int at, int count) {
            return at >= 0 && at <= SIZE - count;
        }

        int byteAt(int at) {
            return at >= 0 && at < SIZE ? cells[at] : 0;
        }

        void orderCut(int number) {
            cutOrdered = true;
            cutNumber = number;
        }

        /** Whether all of it was written: a power cut tears it. */
        boolean write(int at, int[] from, int begin, int count) {
            if (!has(at, count) || begin > from.length - count) {
                return true;
            }
            for (int k = 0; k < count; k++) {
                change(at + k, k, cells[at + k] & from[begin + k]);
            }
            return endChange();
        }

        /** Whether all of the sector was erased: a power cut tears it. */
        boolean erase(int sector) {
            int start = sector * SECTOR;
            if (!has(start, SECTOR)) {
                return true;
            }
            for (int k = 0; k < SECTOR; k++) {
                change(start + k, k, 255);
            }
            return endChange();
        }

        private void change(int at, int k, int aim) {
            // The number has bits for four bytes; those behind them begin with its lowest again.
            int changing = cutOrdered ? cutNumber >>> (8 * (k & 3)) : 255;
            cells[at] ^= (cells[at] ^ aim) & changing;
        }

        private boolean endChange() {
            boolean whole = !cutOrdered;
            cutOrdered = false;
            return whole;
        }

        boolean holds(int at, int[] from, int begin, int count) {
            if (!has(at, count) || begin > from.length - count) {
                return false;
            }
            for (int k = 0; k < count; k++) {
                if (cells[at + k] != from[begin + k]) {
                    return false;
                }
            }
            return true;
        }

        int sumOf(int slot) {
            int start = slot == 1 ? SLOT : 0;
            int sum = 65535;
            for (int k = start; k < start + IMAGE_SIZE; k++) {
                sum ^= cells[k] << 8;
                for (int bit = 0; bit < 8; bit++) {
                    int shifted = (sum << 1) & 65535;
                    sum = (sum & 32768) != 0 ? shifted ^ 4129 : shifted;
                }
            }
            return sum;
        }

        /** The serial of a good slot; NONE if the slot isn't good. */
        int goodSerial(int slot) {
            int start = headerOf(slot);
            int sum = byteAt(start + 2) << 8 | byteAt(start + 3);
            return byteAt(start) == 0 && sum == sumOf(slot) ? byteAt(start + 1) : NONE;
        }

        /** The slot that is to run; NONE if none is good. */
        int bestSlot() {
            int first = goodSerial(0);
            int second = goodSerial(1);
            if (second > first) {
                return 1;
            }
            return first == NONE ? NONE : 0;
        }
    }

    /** The frames that wait to be taken. */
    private static final class Row {
        private static final int MOST = 12;

        private final int[] bytes;
        private int first;
        private int count;

        Row() {
            bytes = new int[MOST * BYTES_OF_FRAME];
        }

        void put(int[] draft) {
            if (count == MOST || draft.length < BYTES_OF_FRAME) {
                return;
            }
            int start = (first + count) % MOST * BYTES_OF_FRAME;
            for (int k = 0; k < BYTES_OF_FRAME; k++) {
                bytes[start + k] = draft[k];
            }
            count++;
        }

        int byteOfFirst(int k) {
            return bytes[first * BYTES_OF_FRAME + k];
        }

        void dropFirst() {
            first = (first + 1) % MOST;
            count--;
        }

        void clear() {
            count = 0;
        }
    }

    /** Puts the bytes of a request together. */
    private static final class Receiver {
        private static final int NOTHING = 0;
        private static final int ASKS_MORE = 1;
        private static final int COMPLETE = 2;

        private static final int SHORTEST = 8;
        private static final int LONGEST = 34;

        private final int[] bytes;
        private int received;
        private int wanted;
        private int number;
        private int ticks;

        Receiver() {
            bytes = new int[LONGEST];
        }

        /** Byte k of the request; 0 if it hasn't as many. */
        int at(int k) {
            return k >= 0 && k < received && k < LONGEST ? bytes[k] : 0;
        }

        void drop() {
            received = 0;
            wanted = 0;
        }

        void age() {
            if (wanted == 0) {
                return;
            }
            ticks++;
            if (ticks >= PATIENCE) {
                drop();
            }
        }

        /** What is to be done after a frame: NOTHING, ASKS_MORE or COMPLETE. */
        int accept(int front, int rest) {
            int kind = byteOf(front, rest, 0);
            if (kind >= 1 && kind <= 7) {
                begin(kind);
                add(front, rest, 1);
                return COMPLETE;
            }
            int length = byteOf(front, rest, 1);
            if (kind == FIRST_FRAME && length >= SHORTEST && length <= LONGEST) {
                begin(length);
                add(front, rest, 2);
                return ASKS_MORE;
            }
            if (kind >= NEXT_FRAME && kind < NEXT_FRAME + FRAME_NUMBERS && wanted > 0) {
                return acceptNext(front, rest);
            }
            return NOTHING;
        }

        private int acceptNext(int front, int rest) {
            if (byteOf(front, rest, 0) - NEXT_FRAME != number) {
                drop();
                return NOTHING;
            }
            boolean second = number % 2 == 0;
            number = (number + 1) % FRAME_NUMBERS;
            add(front, rest, 1);
            if (wanted == 0) {
                return COMPLETE;
            }
            return second ? ASKS_MORE : NOTHING;
        }

        private void begin(int length) {
            received = 0;
            wanted = length;
            number = 1;
        }

        /** Takes the frame's bytes from one on, as many as are wanted. */
        private void add(int front, int rest, int from) {
            ticks = 0;
            for (int k = from; k < BYTES_OF_FRAME && wanted > 0 && received < LONGEST; k++) {
                bytes[received] = byteOf(front, rest, k);
                received++;
                wanted--;
            }
        }
    }

    /** Sends answers, in one frame or several. */
    private static final class Sender {
        private static final int LONGEST = 2 + BYTES_READ;
        private static final int ONE_FRAME = 7;

        private final Row row;
        private final int[] bytes;
        private final int[] draft;
        private int count;
        private int sent;
        private int number;
        private int ticks;
        private boolean waits;

        Sender() {
            row = new Row();
            bytes = new int[LONGEST];
            draft = new int[BYTES_OF_FRAME];
        }

        void begin(int value) {
            count = 0;
            add(value);
        }

        void add(int value) {
            if (count < LONGEST) {
                bytes[count] = value;
                count++;
            }
        }

        void send() {
            sent = 0;
            if (count <= ONE_FRAME) {
                draft[0] = count;
                putFrom(1);
                return;
            }
            draft[0] = FIRST_FRAME;
            draft[1] = count;
            putFrom(2);
            number = 1;
            waits = true;
            ticks = 0;
        }

        /** Puts a frame into the row: behind what it has, the bytes that are next. */
        private void putFrom(int begin) {
            for (int k = begin; k < BYTES_OF_FRAME; k++) {
                boolean more = sent < count && sent < LONGEST;
                draft[k] = more ? bytes[sent] : 0;
                sent += more ? 1 : 0;
            }
            row.put(draft);
        }

        /** Sends so many frames more; 0: all of them. */
        void goOn(int frames) {
            int most = frames == 0 ? LONGEST : frames;
            for (int k = 0; k < most && sent < count; k++) {
                draft[0] = NEXT_FRAME + number;
                number = (number + 1) % FRAME_NUMBERS;
                putFrom(1);
            }
            waits = sent < count;
            ticks = 0;
        }

        void askForMore() {
            sent = 0;
            count = 0;
            draft[0] = GO_ON;
            draft[1] = 2;
            putFrom(2);
        }

        void waitAnew() {
            ticks = 0;
        }

        void drop() {
            waits = false;
        }

        void age() {
            if (!waits) {
                return;
            }
            ticks++;
            if (ticks >= PATIENCE) {
                drop();
            }
        }

        int toSend() {
            return waits ? count - sent : 0;
        }
    }

    /** The lock with its seeds and keys. */
    private static final class Lock {
        private static final int FIRST_SEED = 17;
        private static final int SEED_STEP = 73;
        private static final int WRONG_KEY_LIMIT = 2;
        private static final int LONG_DELAY = 8;

        private boolean unlocked;
        private int openSeed;
        private int seedsGiven;
        private int wrongKeys;
        private int delay;

        void reset() {
            close();
            wrongKeys = 0;
            delay = 0;
        }

        void close() {
            unlocked = false;
            openSeed = 0;
        }

        void open() {
            unlocked = true;
            wrongKeys = 0;
        }

        /** A new seed, open from now on (0 stands for none open). */
        int nextSeed() {
            openSeed = (FIRST_SEED + SEED_STEP * seedsGiven) & 255;
            seedsGiven++;
            return openSeed;
        }

        /** The seed that was open, 0 if none was; it isn't any more. */
        int takeOpenSeed() {
            int seed = openSeed;
            openSeed = 0;
            return seed;
        }

        /** Whether a delay begins by it. */
        boolean countWrongKey() {
            wrongKeys++;
            if (wrongKeys < WRONG_KEY_LIMIT) {
                return false;
            }
            wrongKeys = 0;
            delay = LONG_DELAY;
            return true;
        }

        void shortenDelay() {
            if (delay != 0) {
                delay--;
            }
        }
    }

    /** A download into the image of a slot. */
    private static final class Download {
        private boolean going;
        private int slot;
        private int size;
        private int came;
        private int blocks;

        void begin(int toSlot, int bytes) {
            going = true;
            slot = toSlot;
            size = bytes;
            came = 0;
            blocks = 0;
        }

        void end() {
            going = false;
        }

        /** The bytes still to come; NONE if there is no download. */
        int toCome() {
            return going ? size - came : NONE;
        }

        boolean isLatest(int number) {
            return blocks > 0 && number == (blocks & 255);
        }

        boolean isNext(int number) {
            return number == ((blocks + 1) & 255);
        }

        void addBlock(int bytes) {
            came += bytes;
            blocks++;
        }
    }
}
