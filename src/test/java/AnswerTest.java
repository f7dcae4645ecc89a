/** ANSWERS, and the row of the frames that are sent. */
public final class AnswerTest {
    public static void main(String[] args) {
        answersOfOneFrame();
        longerAnswers();
        goingOn();
        goingOnWithoutAnAnswer();
        waitingAnew();
        dropping();
        aRowOfTwelve();
        lostShortAnswers();
        lostFirstFrames();
        lostNextFrames();
        lostAsksForMore();
        zerosBehindTheBytes();
        Bench.end();
    }

    private static void answersOfOneFrame() {
        Bench.says("ANSWERS of up to 7 bytes are sent in one frame: their number, and the bytes.");
        Bench b = Bench.unlocked();
        b.askDue("116 8", 52, 1, 1);
        b.empty();
        b.send(54, 1, 5);
        Bench.due("an answer of two bytes", b.taken(), "2 118 1 0 0 0 0 0");
        b.send(55);
        Bench.due("an answer of one byte", b.taken(), "1 119 0 0 0 0 0 0");
        b.send(34, 0);
        Bench.due("an answer of three bytes", b.taken(), "3 98 0 0 0 0 0 0");
        b.send(49, 1, 2, 0, 35, 179);
        Bench.due("an answer of four bytes", b.taken(), "4 113 1 2 1 0 0 0");
        Bench.due("what is behind them", b.taken(), "none");
        Bench.due("bytes to be sent", b.unit.state(7), 0);
    }

    private static void longerAnswers() {
        Bench.says("Longer ones: 16, their number, the first 6 bytes; then the answer WAITS.");
        Bench b = new Bench();
        Bench.due("34 2", b.frame(2, 34, 2), 1);
        Bench.due("its first frame", b.taken(), "16 10 98 2 0 1 2 3");
        Bench.due("bytes to be sent", b.unit.state(7), 4);
        Bench.due("what is behind it", b.taken(), "none");
        Bench.due("a request while it waits", b.frame(2, 62, 0), 0);
    }

    private static void goingOn() {
        Bench.says("A frame 48, b that comes sends the next b frames of it (all, if b is 0):"
                + " 32 + their number (1, 2, .., modulo 16), up to 7 bytes; if there are more then, it waits anew.");
        for (int frames = 0; frames < 256; frames++) {
            Bench b = new Bench();
            b.frame(2, 34, 2);
            Bench.due("48 " + frames, b.frame(48, frames), 2);
            Bench.due("bytes to be sent", b.unit.state(7), 0);
            b.taken();
            Bench.due("the frame that is sent", b.taken(), "33 4 5 6 7 0 0 0");
            Bench.due("a request then", b.frame(2, 62, 0), 1);
        }
        Bench b = new Bench();
        for (int round = 0; round < 3; round++) {
            b.frame(2, 34, 2);
            b.frame(48, 1);
            b.taken();
            Bench.due("the number begins anew with each answer", b.taken(), "33 4 5 6 7 0 0 0");
        }
    }

    private static void goingOnWithoutAnAnswer() {
        Bench.says("A frame 48, b that comes sends the next b frames of it (all, if b is 0):"
                + " 32 + their number (1, 2, .., modulo 16), up to 7 bytes; if there are more then, it waits anew.");
        Bench b = new Bench();
        Bench.due("48 0 at first", b.frame(48, 0), 0);
        b.frame(2, 62, 0);
        Bench.due("48 0 behind an answer of one frame", b.frame(48, 0), 1);
        b.empty();
        b.frame(2, 34, 2);
        b.frame(48, 0);
        Bench.due("48 0 when all was sent", b.frame(48, 0), 2);
        Bench.due("48 1 when all was sent", b.frame(48, 1), 2);
    }

    private static void waitingAnew() {
        Bench.says("49 makes it wait anew;");
        Bench b = new Bench();
        b.frame(2, 34, 2);
        for (int round = 0; round < 3; round++) {
            b.ticks(3);
            Bench.due("49", b.frame(49, round), 1);
            Bench.due("bytes to be sent after 49", b.unit.state(7), 4);
        }
        b.ticks(3);
        Bench.due("48 0, three ticks later", b.frame(48, 0), 2);
        Bench.due("49 without an answer", b.frame(49), 2);
        Bench.due("bytes to be sent", b.unit.state(7), 0);
    }

    private static void dropping() {
        Bench.says("50 drops it.");
        Bench b = new Bench();
        b.frame(2, 34, 2);
        Bench.due("50", b.frame(50, 0), 1);
        Bench.due("bytes to be sent", b.unit.state(7), 0);
        Bench.due("48 0 then", b.frame(48, 0), 1);
        Bench.due("a request then", b.frame(2, 62, 0), 2);
        Bench.due("the first frame stays", b.taken(), "16 10 98 2 0 1 2 3");
        Bench.due("50 without an answer", b.frame(50), 1);
    }

    private static Bench withFullRow() {
        Bench b = new Bench();
        for (int k = 1; k <= 12; k++) {
            Bench.due("request " + k, b.frame(1, 100 + k), k);
        }
        return b;
    }

    /** The frames of a full row, from one of them on, and nothing behind them. */
    private static void rowDue(Bench b, int from) {
        for (int k = from; k <= 12; k++) {
            Bench.due("frame " + k + " of the row", b.taken(), "3 127 " + (100 + k) + " 17 0 0 0 0");
        }
    }

    private static void aRowOfTwelve() {
        Bench.says("Frames that are sent are put into a row, of at most 12 that wait to be taken (one more is lost);");
        Bench b = withFullRow();
        rowDue(b, 1);
        Bench.due("what is behind them", b.taken(), "none");
        b = withFullRow();
        b.unit.take();
        Bench.due("a request when one was taken", b.frame(2, 62, 0), 12);
        rowDue(b, 2);
        Bench.due("the frame that found room", b.taken(), "2 126 0 0 0 0 0 0");
        Bench.due("what is behind it", b.taken(), "none");
    }

    private static void lostShortAnswers() {
        Bench.says("Frames that are sent are put into a row, of at most 12 that wait to be taken (one more is lost);");
        Bench b = withFullRow();
        Bench.due("one request more", b.frame(2, 16, 2), 12);
        Bench.due("it was worked on", b.unit.state(1), 2);
        rowDue(b, 1);
        Bench.due("its answer", b.taken(), "none");
    }

    private static void lostFirstFrames() {
        Bench.says("Frames that are sent are put into a row, of at most 12 that wait to be taken (one more is lost);");
        Bench b = withFullRow();
        Bench.due("a long answer", b.frame(2, 34, 2), 12);
        Bench.due("it waits", b.unit.state(7), 4);
        b.unit.take();
        Bench.due("the rest of it", b.frame(48, 0), 12);
        rowDue(b, 2);
        Bench.due("the rest of it", b.taken(), "33 4 5 6 7 0 0 0");
        Bench.due("what is behind it", b.taken(), "none");
    }

    private static void lostNextFrames() {
        Bench.says("Frames that are sent are put into a row, of at most 12 that wait to be taken (one more is lost);");
        Bench b = withFullRow();
        b.unit.take();
        Bench.due("a long answer", b.frame(2, 34, 2), 12);
        Bench.due("the rest of it", b.frame(48, 0), 12);
        Bench.due("bytes to be sent", b.unit.state(7), 0);
        rowDue(b, 2);
        Bench.due("its first frame", b.taken(), "16 10 98 2 0 1 2 3");
        Bench.due("the rest of it", b.taken(), "none");
    }

    private static void lostAsksForMore() {
        Bench.says("Frames that are sent are put into a row, of at most 12 that wait to be taken (one more is lost);");
        Bench b = withFullRow();
        Bench.due("a first frame", b.frame(16, 21, 201), 12);
        Bench.due("bytes wanted", b.unit.state(6), 15);
        b.frame(33);
        Bench.due("the second frame behind it", b.frame(34), 12);
        Bench.due("bytes wanted", b.unit.state(6), 1);
        b.unit.take();
        Bench.due("the last frame", b.frame(35), 12);
        rowDue(b, 2);
        Bench.due("the answer", b.taken(), "3 127 201 17 0 0 0 0");
        Bench.due("what is behind it", b.taken(), "none");
    }

    private static void zerosBehindTheBytes() {
        Bench.says("what is behind the bytes in a frame is 0.");
        Bench b = new Bench();
        for (int k = 0; k < 12; k++) {
            b.frame(2, 34, 2);
            b.frame(50);
            Bench.due("a frame without room", b.taken(), "16 10 98 2 0 1 2 3");
        }
        for (int k = 0; k < 3; k++) {
            b.frame(2, 62, 0);
            Bench.due("an answer of two bytes", b.taken(), "2 126 0 0 0 0 0 0");
            b.frame(1, 255);
            Bench.due("an answer of three bytes", b.taken(), "3 127 255 17 0 0 0 0");
            b.frame(16, 8, 255);
            Bench.due("an ask for more", b.taken(), "48 2 0 0 0 0 0 0");
            b.frame(2, 34, 2);
            b.frame(48, 0);
            b.taken();
            Bench.due("the last frame of an answer", b.taken(), "33 4 5 6 7 0 0 0");
        }
    }
}
