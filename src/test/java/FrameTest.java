/** Promise 2: how requests come in frames, and how answers go. */
public final class FrameTest {
    public static void main(String[] args) {
        oneFrame();
        framesThatDoNothing();
        firstFrames();
        nextFrames();
        askingForMore();
        wrongNumbers();
        newRequestsDropOldOnes();
        bytesBehindDoNotMatter();
        shortAnswers();
        longAnswers();
        goingOnWithAnAnswer();
        waitingAnswersKeepRequestsOut();
        steeringWithoutAnAnswer();
        aFullRow();
        Bench.end();
    }

    private static void oneFrame() {
        Bench b = new Bench();
        Bench.due("62 0", b.frame(2, 62, 0), 1);
        Bench.due("its answer", b.taken(), "2 126 0 0 0 0 0 0");
        for (int n = 1; n <= 7; n++) {
            Bench.due("a frame of " + n, b.frame(n, 200, 1, 2, 3, 4, 5, 6), 1);
            Bench.due("its answer", b.taken(), "3 127 200 17 0 0 0 0");
        }
    }

    private static void framesThatDoNothing() {
        Bench b = new Bench();
        for (int kind = 0; kind < 256; kind++) {
            boolean request = kind >= 1 && kind <= 7;
            if (!request) {
                Bench.due("a frame " + kind + ", 62", b.frame(kind, 62, 62, 62, 62, 62, 62, 62), 0);
                Bench.due("bytes wanted", b.unit.state(6), 0);
            }
        }
        for (int kind = 8; kind < 256; kind++) {
            if (kind != 16 && (kind < 32 || kind > 47)) {
                b = new Bench();
                b.frame(16, 9, 54, 1, 2, 3, 4, 5);
                Bench.due("amidst a request, a frame " + kind, b.frame(kind, 12), 1);
                Bench.due("bytes wanted", b.unit.state(6), 3);
            }
        }
    }

    private static void firstFrames() {
        for (int length = 0; length < 256; length++) {
            Bench b = new Bench();
            boolean good = length >= 8 && length <= 34;
            Bench.due("a first frame of " + length, b.frame(16, length, 200, 1, 2, 3, 4, 5), good ? 1 : 0);
            Bench.due("bytes wanted", b.unit.state(6), good ? length - 6 : 0);
            Bench.due("what is sent", b.taken(), good ? "48 2 0 0 0 0 0 0" : "none");
        }
        Bench b = new Bench();
        b.frame(16, 20, 54);
        Bench.due("a first frame that is too short", b.frame(16, 7, 54), 1);
        Bench.due("bytes wanted", b.unit.state(6), 14);
    }

    private static void nextFrames() {
        for (int length = 8; length <= 34; length++) {
            Bench b = new Bench();
            b.frame(16, length, 200);
            int wanted = length - 6;
            for (int number = 1; wanted > 0; number++) {
                Bench.due("bytes wanted of " + length, b.unit.state(6), wanted);
                b.empty();
                b.frame(32 + number, 1, 2, 3, 4, 5, 6, 7);
                wanted = Math.max(0, wanted - 7);
            }
            Bench.due("bytes wanted at the end", b.unit.state(6), 0);
            Bench.due("the answer", b.taken(), "3 127 200 17 0 0 0 0");
        }
        Bench b = new Bench();
        b.unlock();
        b.load(1, 10, 20, 30, 40, 50, 60, 70, 80, 90);
        Bench.due("what was loaded", b.flash(48, 57), "10 20 30 40 50 60 70 80 90");
    }

    private static void askingForMore() {
        Bench b = new Bench();
        Bench.due("first", b.frame(16, 34, 200), 1);
        Bench.due("number 1", b.frame(33), 1);
        Bench.due("number 2", b.frame(34), 2);
        Bench.due("number 3", b.frame(35), 2);
        Bench.due("number 4", b.frame(36), 3);
        Bench.due("a frame", b.taken(), "48 2 0 0 0 0 0 0");
        Bench.due("a frame", b.taken(), "48 2 0 0 0 0 0 0");
        Bench.due("a frame", b.taken(), "3 127 200 17 0 0 0 0");
        Bench.due("first", b.frame(16, 20, 200), 1);
        Bench.due("number 1", b.frame(33), 1);
        Bench.due("number 2, the last", b.frame(34), 2);
        b.taken();
        Bench.due("the answer", b.taken(), "3 127 200 17 0 0 0 0");
        b.frame(16, 8, 200);
        Bench.due("a frame behind a fuller one", b.taken(), "48 2 0 0 0 0 0 0");
    }

    private static void wrongNumbers() {
        for (int number = 0; number < 16; number++) {
            Bench b = new Bench();
            b.frame(16, 34, 200);
            Bench.due("number " + number + " as the first one", b.frame(32 + number), 1);
            Bench.due("bytes wanted", b.unit.state(6), number == 1 ? 21 : 0);
            b.frame(33);
            Bench.due("after number 1", b.unit.state(6), 0);
            b = new Bench();
            b.frame(16, 34, 200);
            b.frame(33);
            b.frame(32 + number);
            Bench.due("number " + number + " as the second one", b.unit.state(6), number == 2 ? 14 : 0);
        }
    }

    private static void newRequestsDropOldOnes() {
        Bench b = new Bench();
        b.frame(16, 9, 54);
        Bench.due("a request amidst another", b.frame(2, 62, 0), 2);
        Bench.due("bytes wanted", b.unit.state(6), 0);
        Bench.due("the next frame of the old one", b.frame(33), 2);
        b.empty();
        b.frame(16, 20, 54);
        b.frame(33);
        b.frame(16, 8, 201);
        Bench.due("bytes wanted by the new one", b.unit.state(6), 2);
        Bench.due("the number begins anew", b.frame(33), 3);
        b.taken();
        b.taken();
        Bench.due("the answer", b.taken(), "3 127 201 17 0 0 0 0");
    }

    private static void bytesBehindDoNotMatter() {
        Bench b = new Bench();
        Bench.due("62 0 and more", b.frame(2, 62, 0, 9, 9, 9, 9, 9), 1);
        Bench.due("its answer", b.taken(), "2 126 0 0 0 0 0 0");
        b.frame(3, 62, 0, 0);
        Bench.due("62 0 0", b.taken(), "3 127 62 19 0 0 0 0");
        b.unlock();
        Bench.due("39 with a 2 behind it", b.ask(39), "127 39 19");
        b.frame(1, 39, 2, 7);
        Bench.due("39 alone", b.taken(), "3 127 39 19 0 0 0 0");
        b.askDue("116 8", 52, 1, 9);
        b.frame(16, 11, 54, 1, 1, 2, 3, 4);
        b.frame(33, 5, 6, 7, 8, 9, 10, 11);
        b.taken();
        Bench.due("eleven bytes", b.taken(), "3 127 54 19 0 0 0 0");
        b.frame(16, 8, 54, 1, 1, 2, 3, 4);
        b.frame(33, 5, 6, 7, 8, 9, 10, 11);
        Bench.due("six bytes and one behind", b.flash(48, 56), "1 2 3 4 5 6 255 255");
    }

    private static void shortAnswers() {
        Bench b = new Bench();
        b.unlock();
        b.askDue("116 8", 52, 1, 1);
        b.askDue("118 1", 54, 1, 5);
        b.send(55);
        Bench.due("an answer of one byte", b.taken(), "1 119 0 0 0 0 0 0");
        b.send(49, 1, 2, 0, 0, 0);
        Bench.due("an answer of four bytes", b.taken(), "4 113 1 2 0 0 0 0");
        Bench.due("bytes to be sent", b.unit.state(7), 0);
    }

    private static void longAnswers() {
        Bench b = new Bench();
        Bench.due("34 2", b.frame(2, 34, 2), 1);
        Bench.due("its first frame", b.taken(), "16 10 98 2 0 1 2 3");
        Bench.due("bytes to be sent", b.unit.state(7), 4);
        Bench.due("48 0", b.frame(48, 0), 1);
        Bench.due("its next frame", b.taken(), "33 4 5 6 7 0 0 0");
        Bench.due("bytes to be sent", b.unit.state(7), 0);
        Bench.due("48 0 once more", b.frame(48, 0), 0);
    }

    private static void goingOnWithAnAnswer() {
        for (int frames = 0; frames < 256; frames++) {
            Bench b = new Bench();
            b.frame(2, 34, 2);
            Bench.due("48 " + frames, b.frame(48, frames), 2);
            Bench.due("bytes to be sent", b.unit.state(7), 0);
        }
        Bench b = new Bench();
        b.frame(2, 34, 2);
        Bench.due("49", b.frame(49), 1);
        Bench.due("bytes to be sent after 49", b.unit.state(7), 4);
        Bench.due("48 1", b.frame(48, 1), 2);
        b.empty();
        b.frame(2, 34, 2);
        Bench.due("50", b.frame(50), 1);
        Bench.due("bytes to be sent after 50", b.unit.state(7), 0);
        Bench.due("48 0 after 50", b.frame(48, 0), 1);
        Bench.due("a request after 50", b.frame(2, 62, 0), 2);
    }

    private static void waitingAnswersKeepRequestsOut() {
        for (int kind = 0; kind < 256; kind++) {
            if (kind < 48 || kind > 50) {
                Bench b = new Bench();
                b.frame(2, 34, 2);
                Bench.due("while an answer waits, " + kind, b.frame(kind, 16, 2, 1), 1);
                Bench.due("the session", b.unit.state(1), 1);
                Bench.due("bytes wanted", b.unit.state(6), 0);
                Bench.due("bytes to be sent", b.unit.state(7), 4);
            }
        }
    }

    private static void steeringWithoutAnAnswer() {
        Bench b = new Bench();
        for (int kind = 48; kind <= 50; kind++) {
            Bench.due(kind + " without an answer", b.frame(kind, 0), 0);
            b.frame(16, 9, 54);
            Bench.due(kind + " amidst a request", b.frame(kind, 0), 1);
            Bench.due("bytes wanted", b.unit.state(6), 3);
            b.frame(36);
            b.empty();
        }
    }

    private static void aFullRow() {
        Bench b = new Bench();
        for (int k = 1; k <= 12; k++) {
            Bench.due("request " + k, b.frame(2, 100 + k), k);
        }
        Bench.due("one more", b.frame(2, 16, 2), 12);
        Bench.due("it was worked on", b.unit.state(1), 2);
        Bench.due("a long answer", b.frame(2, 34, 2), 12);
        Bench.due("it waits", b.unit.state(7), 4);
        Bench.due("the first one", b.taken(), "3 127 101 17 0 0 0 0");
        Bench.due("the rest of the long answer", b.frame(48, 0), 12);
        for (int k = 2; k <= 12; k++) {
            Bench.due("the next one", b.taken(), "3 127 " + (100 + k) + " 17 0 0 0 0");
        }
        Bench.due("the last one", b.taken(), "33 4 5 6 7 0 0 0");
        Bench.due("nothing more", b.taken(), "none");
        for (int k = 1; k <= 12; k++) {
            b.frame(2, 100 + k);
        }
        Bench.due("a first frame with a full row", b.frame(16, 8, 201), 12);
        Bench.due("bytes wanted", b.unit.state(6), 2);
    }
}
