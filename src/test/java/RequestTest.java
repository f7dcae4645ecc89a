/** Promise 2: the codes in their order, and the requests but for lock and slots. */
public final class RequestTest {
    private static final int[] SERVICES = {16, 17, 34, 39, 46, 49, 52, 54, 55, 62};

    public static void main(String[] args) {
        unknownServices();
        wrongLengths();
        lengthsThatHangOnABytesValue();
        unknownKinds();
        lengthComesBeforeKind();
        sessionAndLock();
        kindComesBeforeSession();
        sessions();
        reset();
        reading();
        storing();
        ranges();
        Bench.end();
    }

    private static boolean known(int service) {
        for (int each : SERVICES) {
            if (each == service) {
                return true;
            }
        }
        return false;
    }

    private static void unknownServices() {
        for (int service = 0; service < 256; service++) {
            Bench b = new Bench();
            String answer = b.ask(service, 77, 77, 77, 77, 77, 77);
            int code = known(service) ? service == 54 ? 127 : 19 : 17;
            Bench.due("service " + service, answer, "127 " + service + " " + code);
        }
    }

    private static String codeFor(Bench b, int length, int... start) {
        int[] request = new int[length];
        System.arraycopy(start, 0, request, 0, Math.min(length, start.length));
        String answer = b.ask(request);
        return answer.substring(answer.lastIndexOf(' ') + 1);
    }

    private static void lengthsDue(int least, int most, int... start) {
        for (int length = 1; length <= 34; length++) {
            Bench b = new Bench();
            String code = codeFor(b, length, start);
            boolean refused = code.equals("19");
            Bench.due(Bench.text(start) + " with " + length + " bytes is refused", refused,
                    length < least || length > most);
        }
    }

    private static void wrongLengths() {
        lengthsDue(2, 2, 16, 1);
        lengthsDue(2, 2, 62, 0);
        lengthsDue(2, 2, 17, 1);
        lengthsDue(2, 2, 34, 0);
        lengthsDue(3, 3, 46, 1);
        lengthsDue(3, 3, 52, 1);
        lengthsDue(3, 10, 54, 1);
        lengthsDue(1, 1, 55);
    }

    private static void lengthsThatHangOnABytesValue() {
        for (int second = 0; second < 256; second++) {
            int length = second == 2 ? 3 : 2;
            lengthsDue(length, length, 39, second);
        }
        for (int third = 0; third < 256; third++) {
            int length = third == 2 ? 6 : 4;
            lengthsDue(length, length, 49, 1, third);
        }
    }

    private static void kindsDue(int service, String bytes, String kinds) {
        for (int kind = 0; kind < 256; kind++) {
            Bench b = new Bench();
            int length = Integer.parseInt(bytes);
            length = service == 39 && kind == 2 ? 3 : length;
            boolean refused = codeFor(b, length, service, kind).equals("18");
            Bench.due(service + " " + kind + " is refused", refused, !kinds.contains(" " + kind + " "));
        }
    }

    private static void unknownKinds() {
        kindsDue(16, "2", " 1 2 ");
        kindsDue(62, "2", " 0 ");
        kindsDue(17, "2", " 1 ");
        kindsDue(39, "2", " 1 2 ");
        kindsDue(49, "4", " 1 ");
    }

    private static void lengthComesBeforeKind() {
        Bench b = new Bench();
        b.askDue("127 16 19", 16, 3, 0);
        b.askDue("127 62 19", 62);
        b.askDue("127 49 19", 49, 7, 2, 1);
        b.askDue("127 39 19", 39, 3, 3);
    }

    private static void sessionAndLock() {
        int[][] requests = {{46, 1, 5}, {49, 1, 2, 0, 0, 0}, {52, 1, 4}, {54, 1, 5}, {55}};
        Bench b = new Bench();
        b.askDue("127 39 127", 39, 1);
        b.askDue("127 39 127", 39, 2, 88);
        for (int[] request : requests) {
            b.askDue("127 " + request[0] + " 127", request);
        }
        b.askDue("80 2", 16, 2);
        for (int[] request : requests) {
            b.askDue("127 " + request[0] + " 51", request);
        }
        b.unlock();
        b.askDue("110 1", requests[0]);
        b.askDue("113 1 2 0", requests[1]);
        b.askDue("116 8", requests[2]);
        b.askDue("118 1", requests[3]);
        b.askDue("127 55 36", requests[4]);
    }

    private static void kindComesBeforeSession() {
        Bench b = new Bench();
        b.askDue("127 49 18", 49, 2, 1, 1);
        b.askDue("127 39 18", 39, 3);
        b.askDue("127 46 127", 46, 9, 9);
        b.askDue("127 52 127", 52, 9, 99);
        b.askDue("80 2", 16, 2);
        b.askDue("127 46 51", 46, 9, 9);
        b.askDue("127 49 51", 49, 1, 9, 9);
        b.askDue("127 52 51", 52, 0, 99);
        b.askDue("127 54 51", 54, 9, 99);
    }

    private static void sessions() {
        Bench b = new Bench();
        b.askDue("80 1", 16, 1);
        Bench.due("the session", b.unit.state(1), 1);
        b.askDue("80 2", 16, 2);
        Bench.due("the session", b.unit.state(1), 2);
        for (int session = 1; session <= 2; session++) {
            b.unlock();
            b.load(1, 1, 2, 3, 4);
            b.check(1);
            b.askDue("110 1", 46, 1, 200);
            b.askDue("116 8", 52, 1, 4);
            b.check(1);
            Bench.due("unlocked", b.unit.state(2), 1);
            b.askDue("80 " + session, 16, session);
            Bench.due("unlocked after 16 " + session, b.unit.state(2), 0);
            Bench.due("the download after 16 " + session, b.unit.state(3), TwinLoader.NONE);
            Bench.due("the slot checked after 16 " + session, b.unit.state(5), 1);
            b.askDue("98 1 200", 34, 1);
        }
        b.ask(39, 1);
        b.askDue("80 2", 16, 2);
        b.askDue("127 39 36", 39, 2, 0);
    }

    private static void reset() {
        Bench b = new Bench();
        b.unlock();
        b.release(1, 50, 51, 52);
        b.askDue("116 8", 52, 1, 4);
        b.check(1);
        b.askDue("110 1", 46, 1, 99);
        b.unit.cut(-1);
        b.send(62, 0);
        Bench.due("17 1", b.frame(2, 17, 1), 2);
        int[] want = {1, 1, 0, -1, 1, -1, 0, 0, 0};
        for (int what = 0; what < want.length; what++) {
            Bench.due("state(" + what + ") after 17 1", b.unit.state(what), want[what]);
        }
        Bench.due("a frame that waited", b.taken(), "2 126 0 0 0 0 0 0");
        Bench.due("the answer", b.taken(), "2 81 1 0 0 0 0 0");
        b.askDue("98 1 0", 34, 1);
        Bench refused = new Bench();
        refused.askDue("80 2", 16, 2);
        refused.askDue("127 17 18", 17, 2);
        refused.askDue("127 17 19", 17);
        Bench.due("the session, not booted", refused.unit.state(1), 2);
    }

    private static void reading() {
        for (int what = 3; what < 256; what++) {
            new Bench().askDue("127 34 49", 34, what);
        }
        Bench b = new Bench();
        b.unlock();
        b.release(1, 201, 202, 203, 204, 205, 206, 207, 208, 209);
        b.askDue("98 0 0", 34, 0);
        b.askDue("98 2 0 1 2 3 4 5 6 7", 34, 2);
        b.unit.restart();
        b.askDue("98 0 1", 34, 0);
        b.askDue("98 2 201 202 203 204 205 206 207 208", 34, 2);
    }

    private static void storing() {
        Bench b = new Bench();
        b.unlock();
        b.askDue("110 1", 46, 1, 255);
        b.askDue("98 1 255", 34, 1);
        b.askDue("110 1", 46, 1, 13);
        b.askDue("98 1 13", 34, 1);
        for (int what = 0; what < 256; what++) {
            Bench other = new Bench();
            other.unlock();
            other.askDue(what == 1 ? "110 1" : "127 46 49", 46, what, 77);
            other.askDue(what == 1 ? "98 1 77" : "98 1 0", 34, 1);
        }
        b.unit.cut(0);
        b.askDue("110 1", 46, 1, 14);
        Bench.due("the cut is still ordered", b.unit.state(4), 1);
    }

    private static void ranges() {
        for (int value = 0; value < 256; value++) {
            Bench b = new Bench();
            b.unlock();
            if (value < 1 || value > 3) {
                b.askDue("127 49 49", 49, 1, value, 1);
            }
            if (value > 1) {
                b.askDue("127 49 49", 49, 1, 1, value);
                b.askDue("127 49 49", 49, 1, 2, value, 0, 0);
                b.askDue("127 49 49", 49, 1, 3, value);
                b.askDue("127 52 49", 52, value, 4);
            }
            b.askDue(value >= 1 && value <= 32 ? "116 8" : "127 52 49", 52, 1, value);
            b.askDue(value >= 1 && value <= 32 ? "127 52 34" : "127 52 49", 52, 0, value);
        }
    }
}
