/** REQUESTS: the codes in their order, and the numbers of bytes. */
public final class CodeTest {
    private static final int[] SERVICES = {16, 17, 34, 39, 46, 49, 52, 54, 55, 62};

    public static void main(String[] args) {
        negativeAnswers();
        unknownServices();
        wrongNumbersOfBytes();
        requestsOfTwoBytes();
        bytesOfKeys();
        requestsOfThreeBytes();
        bytesOfRoutines();
        bytesOfBlocks();
        requestsOfOneByte();
        unknownSecondBytes();
        secondBytesOfOthers();
        inSessionOne();
        allowedInSessionOne();
        whileLocked();
        allowedWhileLocked();
        bytesBeforeSecondByte();
        secondByteBeforeSession();
        sessionBeforeLock();
        lockBeforeTheRest();
        refusalsChangeNothing();
        Bench.end();
    }

    private static boolean known(int service) {
        for (int each : SERVICES) {
            if (each == service) {
                return true;
            }
        }
        return false;
    }

    private static void negativeAnswers() {
        Bench.says("REQUESTS begin with a SERVICE. A negative answer is 127, the service, a code.");
        Bench b = new Bench();
        int[] services = {0, 15, 64, 127, 128, 255};
        for (int service : services) {
            b.empty();
            b.send(service, 1);
            Bench.due("the answer to " + service, b.taken(), "3 127 " + service + " 17 0 0 0 0");
        }
        b.send(62);
        Bench.due("the answer to 62 alone", b.taken(), "3 127 62 19 0 0 0 0");
    }

    private static void unknownServices() {
        Bench.says("17: the service isn't one of those below.");
        for (int service = 0; service < 256; service++) {
            for (int length = 1; length <= 9; length += 4) {
                int[] request = new int[length];
                request[0] = service;
                boolean refused = new Bench().ask(request).equals("127 " + service + " 17");
                Bench.due("service " + service + " is unknown", refused, !known(service));
            }
        }
    }

    private static boolean refusedBy(int code, Bench b, int length, int... start) {
        int[] request = new int[length];
        System.arraycopy(start, 0, request, 0, Math.min(length, start.length));
        return b.ask(request).equals("127 " + start[0] + " " + code);
    }

    /** Which lengths of a request that begins so are refused by 19, wherever the unit stands. */
    private static void lengthsDue(int least, int most, int... start) {
        for (int length = 1; length <= 34; length++) {
            boolean want = length < least || length > most;
            String what = Bench.text(start) + " with " + length + " bytes is refused by 19";
            Bench.due(what, refusedBy(19, new Bench(), length, start), want);
            if (length <= 12) {
                Bench.due(what + " when unlocked", refusedBy(19, Bench.unlocked(), length, start), want);
            }
        }
    }

    private static void wrongNumbersOfBytes() {
        Bench.says("19: it has not as many bytes as it must have.");
        Bench b = new Bench();
        b.askDue("127 16 19", 16);
        b.askDue("80 1", 16, 1);
        b.askDue("127 16 19", 16, 1, 1);
        b.askDue("127 16 19", 16, 1, 1, 1, 1, 1, 1, 1);
    }

    private static void requestsOfTwoBytes() {
        Bench.says("Numbers of bytes that requests must have (with the service): 16, 62, 17, 34: 2.");
        lengthsDue(2, 2, 16, 1);
        lengthsDue(2, 2, 62, 0);
        lengthsDue(2, 2, 17, 1);
        lengthsDue(2, 2, 34, 0);
    }

    private static void bytesOfKeys() {
        Bench.says("39: 3 if the second one is 2, else 2.");
        for (int second = 0; second < 256; second++) {
            int length = second == 2 ? 3 : 2;
            for (int each = 1; each <= 5; each++) {
                Bench.due("39 " + second + " with " + each + " bytes is refused by 19",
                        refusedBy(19, new Bench(), each, 39, second), each != length);
            }
        }
        lengthsDue(2, 2, 39, 1);
        lengthsDue(3, 3, 39, 2);
    }

    private static void requestsOfThreeBytes() {
        Bench.says("46, 52: 3.");
        lengthsDue(3, 3, 46, 1);
        lengthsDue(3, 3, 52, 1);
    }

    private static void bytesOfRoutines() {
        Bench.says("49: 6 if the third one is 2, else 4.");
        for (int third = 0; third < 256; third++) {
            int length = third == 2 ? 6 : 4;
            for (int each = 1; each <= 8; each++) {
                Bench.due("49 1 " + third + " with " + each + " bytes is refused by 19",
                        refusedBy(19, new Bench(), each, 49, 1, third), each != length);
            }
        }
        lengthsDue(4, 4, 49, 1, 1);
        lengthsDue(6, 6, 49, 1, 2);
        lengthsDue(4, 4, 49, 1, 3);
        lengthsDue(4, 4, 49, 2, 1);
    }

    private static void bytesOfBlocks() {
        Bench.says("54: 3 to 10.");
        lengthsDue(3, 10, 54, 1);
        for (int length = 2; length <= 11; length++) {
            Bench b = Bench.unlocked();
            b.askDue("116 8", 52, 1, 32);
            int[] request = new int[length];
            request[0] = 54;
            request[1] = 1;
            boolean good = length >= 3 && length <= 10;
            b.askDue(good ? "118 1" : "127 54 19", request);
            Bench.due("bytes still to come", b.unit.state(3), good ? 34 - length : 32);
        }
    }

    private static void requestsOfOneByte() {
        Bench.says("55: 1.");
        lengthsDue(1, 1, 55);
    }

    /** Which second bytes of a service are refused by 18, wherever the unit stands. */
    private static void secondBytesDue(int service, int length, String said) {
        for (int second = 0; second < 256; second++) {
            int bytes = service == 39 && second == 2 ? 3 : length;
            boolean want = !said.contains(" " + second + " ");
            String what = service + " " + second + " is refused by 18";
            Bench.due(what, refusedBy(18, new Bench(), bytes, service, second), want);
            Bench.due(what + " in session 2", refusedBy(18, Bench.inSessionTwo(), bytes, service, second), want);
        }
    }

    private static void unknownSecondBytes() {
        Bench.says("18: the second byte of 16, 62, 17, 39, 49 isn't one that is said.");
        secondBytesDue(16, 2, " 1 2 ");
        secondBytesDue(62, 2, " 0 ");
        secondBytesDue(17, 2, " 1 ");
        secondBytesDue(39, 2, " 1 2 ");
        secondBytesDue(49, 4, " 1 ");
    }

    private static void secondBytesOfOthers() {
        Bench.says("18: the second byte of 16, 62, 17, 39, 49 isn't one that is said.");
        for (int second = 0; second < 256; second++) {
            Bench b = Bench.unlocked();
            Bench.due("34 " + second + " is refused by 18", refusedBy(18, b, 2, 34, second), false);
            Bench.due("46 " + second + " is refused by 18", refusedBy(18, b, 3, 46, second), false);
            Bench.due("52 " + second + " is refused by 18", refusedBy(18, b, 3, 52, second), false);
            Bench.due("54 " + second + " is refused by 18", refusedBy(18, b, 3, 54, second), false);
        }
    }

    private static final int[][] FOR_SESSION_TWO = {
        {39, 1}, {39, 2, 88}, {46, 1, 5}, {49, 1, 1, 1}, {49, 1, 2, 0, 0, 0}, {49, 1, 3, 1},
        {52, 1, 4}, {54, 1, 5}, {55}};

    private static void inSessionOne() {
        Bench.says("127: it is session 1, and the service is 39, 46, 49, 52, 54 or 55.");
        Bench b = new Bench();
        for (int[] request : FOR_SESSION_TWO) {
            b.askDue("127 " + request[0] + " 127", request);
        }
        b.statesDue("after refused requests", Bench.BOOTED);
        b.askDue("80 2", 16, 2);
        b.askDue("103 1 17", 39, 1);
    }

    private static void allowedInSessionOne() {
        Bench.says("127: it is session 1, and the service is 39, 46, 49, 52, 54 or 55.");
        Bench b = new Bench();
        b.askDue("126 0", 62, 0);
        b.askDue("98 0 0", 34, 0);
        b.askDue("98 1 0", 34, 1);
        b.askDue("98 2 0 1 2 3 4 5 6 7", 34, 2);
        b.askDue("80 1", 16, 1);
        b.askDue("81 1", 17, 1);
    }

    private static void whileLocked() {
        Bench.says("51: the unit is locked, and the service is 46, 49, 52, 54 or 55.");
        Bench b = Bench.inSessionTwo();
        for (int[] request : FOR_SESSION_TWO) {
            if (request[0] != 39) {
                b.askDue("127 " + request[0] + " 51", request);
            }
        }
        b.statesDue("after refused requests", 0, 2, 0, -1, 0, -1, 0, 0, 0);
        b.unlock();
        b.askDue("110 1", 46, 1, 5);
        b.askDue("113 1 1", 49, 1, 1, 1);
        b.askDue("116 8", 52, 1, 4);
        b.askDue("118 1", 54, 1, 5);
        b.askDue("127 55 36", 55);
    }

    private static void allowedWhileLocked() {
        Bench.says("51: the unit is locked, and the service is 46, 49, 52, 54 or 55.");
        Bench b = Bench.inSessionTwo();
        b.askDue("126 0", 62, 0);
        b.askDue("98 0 0", 34, 0);
        b.askDue("103 1 17", 39, 1);
        b.askDue("103 2", 39, 2, 88);
        b.askDue("80 2", 16, 2);
        b.askDue("81 1", 17, 1);
    }

    private static void bytesBeforeSecondByte() {
        Bench.says("Codes, tested in this order:");
        Bench b = new Bench();
        b.askDue("127 16 19", 16, 3, 0);
        b.askDue("127 62 19", 62, 1, 0);
        b.askDue("127 17 19", 17, 2, 0);
        b.askDue("127 39 19", 39, 3, 3);
        b.askDue("127 49 19", 49, 7, 2, 1);
        b.askDue("127 49 19", 49, 7, 1, 1, 0, 0);
    }

    private static void secondByteBeforeSession() {
        Bench.says("Codes, tested in this order:");
        Bench b = new Bench();
        b.askDue("127 39 19", 39);
        b.askDue("127 46 19", 46);
        b.askDue("127 49 19", 49);
        b.askDue("127 52 19", 52);
        b.askDue("127 54 19", 54);
        b.askDue("127 55 19", 55, 0);
        b.askDue("127 39 18", 39, 3);
        b.askDue("127 49 18", 49, 2, 1, 1);
        b.askDue("127 49 18", 49, 0, 2, 1, 0, 0);
    }

    private static void sessionBeforeLock() {
        Bench.says("Codes, tested in this order:");
        Bench b = new Bench();
        b.askDue("127 46 127", 46, 9, 9);
        b.askDue("127 49 127", 49, 1, 9, 9);
        b.askDue("127 52 127", 52, 9, 99);
        b.askDue("127 54 127", 54, 9, 9);
        b.askDue("127 55 127", 55);
    }

    private static void lockBeforeTheRest() {
        Bench.says("Then:");
        Bench b = Bench.inSessionTwo();
        b.askDue("127 46 51", 46, 9, 9);
        b.askDue("127 49 51", 49, 1, 9, 9);
        b.askDue("127 49 51", 49, 1, 1, 0);
        b.askDue("127 52 51", 52, 0, 99);
        b.askDue("127 54 51", 54, 9, 99);
        b.askDue("127 55 51", 55);
    }

    private static void refusalsChangeNothing() {
        Bench.says("REQUESTS begin with a SERVICE. A negative answer is 127, the service, a code.");
        Bench b = Bench.unlocked();
        b.askDue("110 1", 46, 1, 200);
        b.askDue("116 8", 52, 1, 9);
        b.askDue("118 1", 54, 1, 7);
        b.check(1);
        b.unit.cut(-1);
        String image = b.flash(48, 58);
        int[][] refused = {{200}, {16}, {16, 3}, {17}, {17, 2}, {62, 1}, {39, 0}, {39, 2, 5}, {34, 3}, {46, 2, 5},
            {49, 2, 1, 1}, {49, 1, 4, 1}, {49, 1, 1, 2}, {49, 1, 1, 0}, {49, 1, 3, 0}, {52, 2, 4}, {52, 1, 0},
            {52, 1, 33}, {52, 0, 4}, {54, 3, 5}, {54, 2, 1, 2, 3, 4, 5, 6, 7, 8, 9}, {55}, {55, 1}};
        for (int[] request : refused) {
            String answer = b.ask(request);
            Bench.due(Bench.text(request) + " is refused", answer.startsWith("127 " + request[0] + " "), true);
        }
        b.statesDue("after refused requests", 0, 2, 1, 8, 1, 1, 0, 0, 0);
        Bench.due("the image", b.flash(48, 58), image);
        Bench.due("the header of slot 0", b.flash(32, 36), "0 1 35 179");
        b.askDue("98 1 200", 34, 1);
    }
}
