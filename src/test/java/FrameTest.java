/** FRAMES THAT COME, and promise 2 of the frame itself. */
public final class FrameTest {
    public static void main(String[] args) {
        requestsOfOneFrame();
        nothingBesideOneToSeven();
        firstFrames();
        theFirstSixBytes();
        requestsOfOneFrameDropOldOnes();
        firstFramesDropOldOnes();
        refusedFirstFramesDropNothing();
        theNumbersOfFrames();
        nothingIsWanted();
        asManyAsAreWanted();
        bytesBehindTheLastOne();
        askingForMore();
        anotherNumber();
        afterAnotherNumber();
        otherFrames();
        otherFramesAmidstARequest();
        steeringAmidstARequest();
        whileAnAnswerWaits();
        workedOnAtOnce();
        theBytesOfTheTwoNumbers();
        bytesThatDoNotCount();
        howManyFramesWait();
        Bench.end();
    }

    private static void requestsOfOneFrame() {
        Bench.says("FRAMES THAT COME, by byte 0: 1 .. 7 (n): a request of the next n bytes.");
        for (int n = 1; n <= 7; n++) {
            Bench b = Bench.unlocked();
            b.askDue("116 8", 52, 1, 9);
            b.empty();
            Bench.due("a frame of " + n, b.frame(n, 54, 1, 1, 2, 3, 4, 5), 1);
            Bench.due("its answer", b.taken(), n < 3 ? "3 127 54 19 0 0 0 0" : "2 118 1 0 0 0 0 0");
            String block = n < 3 ? "" : "1 2 3 4 5 ".substring(0, 2 * (n - 2));
            Bench.due("what was written", b.flash(48, 57), block + Bench.repeated(255, 9 - Math.max(0, n - 2)));
        }
    }

    private static void nothingBesideOneToSeven() {
        Bench.says("FRAMES THAT COME, by byte 0: 1 .. 7 (n): a request of the next n bytes.");
        for (int kind = 0; kind < 256; kind++) {
            Bench b = new Bench();
            boolean request = kind >= 1 && kind <= 7;
            Bench.due("a frame " + kind + ", 62, ..", b.frame(kind, 62, 0, 62, 0, 62, 0, 62), request ? 1 : 0);
        }
    }

    private static void firstFrames() {
        Bench.says("16, and byte 1 being a length 8 .. 34: a FIRST frame: the request's first 6 bytes;"
                + " a frame 48, 2, 0 is sent, and more bytes are WANTED.");
        for (int length = 0; length < 256; length++) {
            Bench b = new Bench();
            boolean good = length >= 8 && length <= 34;
            Bench.due("a first frame of " + length, b.frame(16, length, 200, 1, 2, 3, 4, 5), good ? 1 : 0);
            Bench.due("bytes wanted", b.unit.state(6), good ? length - 6 : 0);
            Bench.due("what is sent", b.taken(), good ? "48 2 0 0 0 0 0 0" : "none");
        }
        for (int kind = 8; kind < 32; kind++) {
            Bench b = new Bench();
            Bench.due("a frame " + kind + ", 8", b.frame(kind, 8, 200), kind == 16 ? 1 : 0);
            Bench.due("bytes wanted", b.unit.state(6), kind == 16 ? 2 : 0);
        }
    }

    private static void theFirstSixBytes() {
        Bench.says("16, and byte 1 being a length 8 .. 34: a FIRST frame: the request's first 6 bytes;"
                + " a frame 48, 2, 0 is sent, and more bytes are WANTED.");
        Bench b = Bench.unlocked();
        b.askDue("116 8", 52, 1, 32);
        b.frame(16, 8, 54, 1, 11, 12, 13, 14);
        b.frame(33, 15, 16);
        Bench.due("what was written", b.flash(48, 55), "11 12 13 14 15 16 255");
    }

    private static void requestsOfOneFrameDropOldOnes() {
        Bench.says("(With either, what was received before is dropped.)");
        Bench b = new Bench();
        b.frame(16, 9, 200);
        Bench.due("a request amidst another", b.frame(2, 62, 0), 2);
        Bench.due("bytes wanted", b.unit.state(6), 0);
        Bench.due("the next frame of the old one", b.frame(33), 2);
        b.taken();
        Bench.due("the answer", b.taken(), "2 126 0 0 0 0 0 0");
    }

    private static void firstFramesDropOldOnes() {
        Bench.says("(With either, what was received before is dropped.)");
        Bench b = new Bench();
        b.frame(16, 20, 200);
        b.frame(33);
        b.empty();
        Bench.due("a first frame amidst another request", b.frame(16, 8, 201), 1);
        Bench.due("bytes wanted", b.unit.state(6), 2);
        Bench.due("the number begins anew", b.frame(33), 2);
        b.taken();
        Bench.due("the answer", b.taken(), "3 127 201 17 0 0 0 0");
        Bench other = Bench.unlocked();
        other.askDue("116 8", 52, 1, 32);
        other.frame(16, 10, 54, 1, 91, 92, 93, 94);
        other.frame(16, 8, 54, 1, 11, 12, 13, 14);
        other.frame(33, 15, 16, 17, 18);
        Bench.due("what was written", other.flash(48, 56), "11 12 13 14 15 16 255 255");
    }

    private static void refusedFirstFramesDropNothing() {
        Bench.says("48, 49, 50: see answers. Other frames do nothing;");
        int[] lengths = {0, 1, 6, 7, 35, 36, 255};
        for (int length : lengths) {
            Bench b = new Bench();
            b.frame(16, 20, 200);
            Bench.due("a frame 16, " + length + " amidst a request", b.frame(16, length, 201), 1);
            Bench.due("bytes wanted", b.unit.state(6), 14);
            b.frame(33);
            Bench.due("bytes wanted by the next frame", b.unit.state(6), 7);
        }
    }

    private static void theNumbersOfFrames() {
        Bench.says("32 .. 47, if bytes are wanted: byte 0 less 32 must be the number of the frame"
                + " (1 for the first one behind a FIRST frame, then 2, .., modulo 16):");
        for (int right = 1; right <= 4; right++) {
            for (int number = 0; number < 16; number++) {
                Bench b = new Bench();
                b.frame(16, 34, 200);
                for (int before = 1; before < right; before++) {
                    b.frame(32 + before);
                }
                b.empty();
                b.frame(32 + number);
                int wanted = number == right ? 28 - 7 * right : 0;
                Bench.due("bytes wanted after number " + number + " as frame " + right, b.unit.state(6), wanted);
                boolean complete = right == 4 && number == 4;
                String sent = complete ? "3 127 200 17 0 0 0 0" : right == 2 && number == 2 ? "48 2 0 0 0 0 0 0" : "none";
                Bench.due("what is sent then", b.taken(), sent);
            }
        }
    }

    private static void nothingIsWanted() {
        Bench.says("32 .. 47, if bytes are wanted: byte 0 less 32 must be the number of the frame"
                + " (1 for the first one behind a FIRST frame, then 2, .., modulo 16):");
        Bench b = new Bench();
        for (int kind = 32; kind <= 47; kind++) {
            Bench.due("a frame " + kind + " when nothing is wanted", b.frame(kind, 62, 0), 0);
            Bench.due("bytes wanted", b.unit.state(6), 0);
        }
        b.frame(16, 8, 200);
        b.frame(33);
        b.empty();
        Bench.due("number 2 when the request is complete", b.frame(34, 62, 0), 0);
        Bench.due("bytes wanted", b.unit.state(6), 0);
    }

    private static void asManyAsAreWanted() {
        Bench.says("up to 7 bytes more, as many as are wanted;");
        for (int length = 8; length <= 34; length++) {
            Bench b = new Bench();
            b.frame(16, length, 200);
            int wanted = length - 6;
            for (int number = 1; wanted > 0; number++) {
                Bench.due("bytes wanted of " + length, b.unit.state(6), wanted);
                b.empty();
                b.frame(32 + number, 1, 2, 3, 4, 5, 6, 7);
                wanted = Math.max(0, wanted - 7);
            }
            Bench.due("bytes wanted at the end", b.unit.state(6), 0);
            Bench.due("the answer", b.taken(), "3 127 200 17 0 0 0 0");
        }
    }

    private static void bytesBehindTheLastOne() {
        Bench.says("up to 7 bytes more, as many as are wanted;");
        for (int length = 8; length <= 10; length++) {
            Bench b = Bench.unlocked();
            b.askDue("116 8", 52, 1, 32);
            b.frame(16, length, 54, 1, 11, 12, 13, 14);
            b.frame(33, 15, 16, 17, 18, 19, 20, 21);
            String block = "11 12 13 14 15 16 17 18".substring(0, 3 * (length - 2) - 1);
            Bench.due("what was written of " + length, b.flash(48, 60), block + " " + Bench.repeated(255, 14 - length));
            Bench.due("bytes still to come", b.unit.state(3), 34 - length);
        }
    }

    /** Which of the frames behind the FIRST one of a request ask for more. */
    private static void asksDue(int length, String want) {
        Bench b = new Bench();
        b.frame(16, length, 200);
        b.empty();
        StringBuilder asks = new StringBuilder();
        for (int number = 1; b.unit.state(6) > 0 && number < 10; number++) {
            b.frame(32 + number);
            if (b.unit.peek(0) == 48) {
                Bench.due("what is sent", b.taken(), "48 2 0 0 0 0 0 0");
                asks.append(number);
            }
        }
        Bench.due("frames that ask for more in a request of " + length, asks.toString(), want);
        Bench.due("the answer", b.taken(), "3 127 200 17 0 0 0 0");
        Bench.due("what is sent behind it", b.taken(), "none");
    }

    private static void askingForMore() {
        Bench.says("after each second one, if bytes are still wanted, 48, 2, 0 is sent again;");
        for (int length = 8; length <= 34; length++) {
            asksDue(length, length > 20 ? "2" : "");
        }
    }

    private static void anotherNumber() {
        Bench.says("with another number what was received is dropped, and nothing is wanted.");
        Bench b = new Bench();
        b.frame(16, 34, 200);
        b.frame(33);
        b.empty();
        Bench.due("the same number once more", b.frame(33), 0);
        Bench.due("bytes wanted", b.unit.state(6), 0);
        for (int number = 0; number < 16; number++) {
            Bench.due("number " + number + " then", b.frame(32 + number), 0);
            Bench.due("bytes wanted", b.unit.state(6), 0);
        }
    }

    private static void afterAnotherNumber() {
        Bench.says("with another number what was received is dropped, and nothing is wanted.");
        Bench b = Bench.unlocked();
        b.askDue("116 8", 52, 1, 32);
        b.frame(16, 10, 54, 1, 91, 92, 93, 94);
        b.frame(34, 95, 96, 97, 98);
        Bench.due("bytes wanted", b.unit.state(6), 0);
        b.frame(16, 8, 54, 1, 11, 12, 13, 14);
        b.frame(33, 15, 16);
        Bench.due("what was written by a new request", b.flash(48, 55), "11 12 13 14 15 16 255");
    }

    private static void otherFrames() {
        Bench.says("48, 49, 50: see answers. Other frames do nothing;");
        Bench b = new Bench();
        for (int kind = 0; kind < 256; kind++) {
            if (kind < 1 || kind > 7) {
                Bench.due("a frame " + kind + ", 2, ..", b.frame(kind, 2, 16, 2, 2, 16, 2, 2), 0);
            }
        }
        b.statesDue("after frames that do nothing", Bench.BOOTED);
    }

    private static void otherFramesAmidstARequest() {
        Bench.says("48, 49, 50: see answers. Other frames do nothing;");
        for (int kind = 0; kind < 256; kind++) {
            boolean other = kind == 0 || kind >= 8 && kind <= 15 || kind >= 17 && kind <= 31 || kind >= 51;
            if (other) {
                Bench b = new Bench();
                b.frame(16, 9, 200);
                Bench.due("amidst a request, a frame " + kind, b.frame(kind, 12), 1);
                Bench.due("bytes wanted", b.unit.state(6), 3);
                Bench.due("the frame that ends the request", b.frame(33), 2);
            }
        }
    }

    private static void steeringAmidstARequest() {
        Bench.says("48, 49, 50: see answers. Other frames do nothing;");
        for (int kind = 48; kind <= 50; kind++) {
            Bench b = new Bench();
            Bench.due(kind + " without an answer", b.frame(kind, 0), 0);
            b.frame(16, 9, 200);
            Bench.due(kind + " amidst a request", b.frame(kind, 0), 1);
            Bench.due("bytes wanted", b.unit.state(6), 3);
            Bench.due("the frame that ends the request", b.frame(33), 2);
        }
    }

    private static void whileAnAnswerWaits() {
        Bench.says("and while an answer WAITS none but 48, 49, 50 does anything.");
        for (int kind = 0; kind < 256; kind++) {
            if (kind < 48 || kind > 50) {
                Bench b = new Bench();
                b.frame(2, 34, 2);
                Bench.due("while an answer waits, " + kind, b.frame(kind, 16, 2, 1), 1);
                b.statesDue("then", 0, 1, 0, -1, 0, -1, 0, 4, 0);
                Bench.due("the rest of the answer", b.frame(48, 0), 2);
                Bench.due("a request then", b.frame(2, 16, 2), 3);
            }
        }
    }

    private static void workedOnAtOnce() {
        Bench.says("When all bytes of a request are there, it is worked on at once.");
        Bench b = new Bench();
        Bench.due("a request of one frame", b.frame(2, 16, 2), 1);
        Bench.due("the session", b.unit.state(1), 2);
        b.unlock();
        b.askDue("116 8", 52, 1, 32);
        b.empty();
        b.frame(16, 9, 54, 1, 11, 12, 13, 14);
        Bench.due("bytes to come before the last frame", b.unit.state(3), 32);
        Bench.due("what is written before the last frame", b.unit.flash(48), 255);
        Bench.due("the last frame", b.frame(33, 15, 16, 17), 2);
        Bench.due("bytes to come", b.unit.state(3), 25);
        Bench.due("what is written", b.flash(48, 56), "11 12 13 14 15 16 17 255");
    }

    private static void theBytesOfTheTwoNumbers() {
        Bench.says("A frame comes: its bytes 0 .. 3 in front, 4 .. 7 in rest, each time the first one"
                + " in the highest 8 bits (bytes behind those that count do not matter).");
        Bench b = Bench.unlocked();
        b.askDue("116 8", 52, 1, 32);
        b.empty();
        b.unit.frame(0x07360181, 0x82FF0184);
        Bench.due("a block of great bytes", b.flash(48, 54), "129 130 255 1 132 255");
        b.unit.frame(0x100A3602, 0x80000001);
        b.unit.frame(0x21FE7F80, 0x01FFFFFF);
        Bench.due("a block in two frames", b.flash(53, 62), "128 0 0 1 254 127 128 1 255");
        Bench.due("byte 0 being 130, not 2", b.unit.frame(0x823E0000, 0), 3);
        Bench.due("byte 0 being 255", b.unit.frame(-1, -1), 3);
        Bench.due("byte 0 being 0", b.unit.frame(0, 0), 3);
    }

    private static void bytesThatDoNotCount() {
        Bench.says("A frame comes: its bytes 0 .. 3 in front, 4 .. 7 in rest, each time the first one"
                + " in the highest 8 bits (bytes behind those that count do not matter).");
        Bench b = new Bench();
        Bench.due("62 0 and more", b.frame(2, 62, 0, 9, 9, 9, 9, 9), 1);
        Bench.due("its answer", b.taken(), "2 126 0 0 0 0 0 0");
        b.frame(1, 39, 2, 7);
        Bench.due("39 alone", b.taken(), "3 127 39 19 0 0 0 0");
        b.frame(4, 49, 1, 1, 1, 7, 7, 7);
        Bench.due("49 1 1 1", b.taken(), "3 127 49 127 0 0 0 0");
        b.frame(2, 49, 1, 2, 1, 7, 7, 7);
        Bench.due("49 1 with a 2 behind it", b.taken(), "3 127 49 19 0 0 0 0");
        b.frame(2, 34, 2);
        b.empty();
        Bench.due("48 0 and more", b.frame(48, 0, 9, 9, 9, 9, 9, 9), 1);
        Bench.due("the rest of the answer", b.taken(), "33 4 5 6 7 0 0 0");
    }

    private static void howManyFramesWait() {
        Bench.says("How many frames wait then.");
        Bench b = new Bench();
        Bench.due("a frame that does nothing", b.frame(0), 0);
        for (int k = 1; k <= 14; k++) {
            Bench.due("request " + k, b.frame(2, 62, 0), Math.min(k, 12));
        }
        Bench.due("a frame that does nothing", b.frame(0), 12);
        b.unit.take();
        b.unit.take();
        Bench.due("a frame that does nothing, two being taken", b.frame(0), 10);
        Bench.due("a first frame", b.frame(16, 9, 200), 11);
        Bench.due("the frame that ends the request", b.frame(33), 12);
        b.empty();
        Bench.due("a frame that does nothing, all being taken", b.frame(255), 0);
    }
}
