import java.lang.reflect.Field;
import java.lang.reflect.Method;

/**
 * Sentences that no run of 512 calls reaches, tested by setting the unit's
 * fields: the slot that runs is never altered, so one is always good; requests
 * and answers have too few frames, and downloads too few blocks, for their
 * numbers to come round; a cut always meets serial and sum before the mark.
 */
public final class InsideTest {
    public static void main(String[] args) throws ReflectiveOperationException {
        noneRuns();
        nothingToReadIfNoneRuns();
        bothSlotsMayBeLoadedIfNoneRuns();
        theFirstSerial();
        seedsAreClosedByADelayToo();
        framesOfRequestsComeRound();
        answersOfEachLength();
        answersOfSeveralFrames();
        answersWaitAnew();
        framesOfAnswersComeRound();
        blocksComeRound();
        tornMarks();
        Bench.end();
    }

    private static Field field(Object owner, String name) throws ReflectiveOperationException {
        Field field = owner.getClass().getDeclaredField(name);
        field.setAccessible(true);
        return field;
    }

    private static Object part(Bench b, String name) throws ReflectiveOperationException {
        return field(b.unit.itself(), name).get(b.unit.itself());
    }

    private static void set(Bench b, String part, String name, int value) throws ReflectiveOperationException {
        Object owner = part(b, part);
        field(owner, name).setInt(owner, value);
    }

    /** A unit whose only good slot has lost its mark, booted anew. */
    private static Bench withoutAGoodSlot() throws ReflectiveOperationException {
        Bench b = new Bench();
        Object memory = part(b, "memory");
        ((int[]) field(memory, "cells").get(memory))[32] = 255;
        b.unit.restart();
        return b;
    }

    private static void noneRuns() throws ReflectiveOperationException {
        Bench.says("none if none is good).");
        Bench b = withoutAGoodSlot();
        b.statesDue("if none is good", -1, 1, 0, -1, 0, -1, 0, 0, 0);
    }

    private static void nothingToReadIfNoneRuns() throws ReflectiveOperationException {
        Bench.says("(34 for 0 and 2 if none runs.)");
        Bench b = withoutAGoodSlot();
        b.askDue("127 34 34", 34, 0);
        b.askDue("98 1 0", 34, 1);
        b.askDue("127 34 34", 34, 2);
        b.askDue("127 34 49", 34, 3);
        Bench.due("bytes to be sent", b.unit.state(7), 0);
    }

    private static void bothSlotsMayBeLoadedIfNoneRuns() throws ReflectiveOperationException {
        Bench.says("none if none is good).");
        for (int slot = 0; slot < 2; slot++) {
            Bench b = withoutAGoodSlot();
            b.unlock();
            b.release(slot, 9, 8, 7);
            Bench.due("the slot that runs", b.unit.state(0), TwinLoader.NONE);
            b.unit.restart();
            Bench.due("the slot that runs", b.unit.state(0), slot);
        }
    }

    private static void theFirstSerial() throws ReflectiveOperationException {
        Bench.says("1 if none is good)");
        for (int slot = 0; slot < 2; slot++) {
            Bench b = withoutAGoodSlot();
            b.unlock();
            b.release(slot, 9, 8, 7);
            Bench.due("the mark and the serial", b.flash(48 * slot + 32, 48 * slot + 34), "0 1");
        }
    }

    private static void seedsAreClosedByADelayToo() throws ReflectiveOperationException {
        Bench.says("it is OPEN, if it isn't 0, until the next request 39 that isn't answered by 17, 19 or 18.");
        Bench b = Bench.inSessionTwo();
        b.askDue("103 1 17", 39, 1);
        set(b, "lock", "delay", 1);
        b.askDue("127 39 55", 39, 1);
        b.askDue("127 39 36", 39, 2, 88);
    }

    private static void framesOfRequestsComeRound() throws ReflectiveOperationException {
        Bench.says("32 .. 47, if bytes are wanted: byte 0 less 32 must be the number of the frame"
                + " (1 for the first one behind a FIRST frame, then 2, .., modulo 16):");
        Bench b = new Bench();
        b.frame(16, 34, 200);
        set(b, "receiver", "number", 15);
        b.frame(47);
        Bench.due("bytes wanted after number 15", b.unit.state(6), 21);
        Bench.due("number 0, a second one", b.frame(32), 2);
        Bench.due("bytes wanted after number 0", b.unit.state(6), 14);
        Bench.due("number 1", b.frame(33), 2);
        Bench.due("number 2, the last one", b.frame(34), 3);
    }

    private static void call(Object owner, String name, int... value) throws ReflectiveOperationException {
        Class<?>[] types = new Class<?>[value.length];
        Object[] values = new Object[value.length];
        for (int k = 0; k < value.length; k++) {
            types[k] = int.class;
            values[k] = value[k];
        }
        Method method = owner.getClass().getDeclaredMethod(name, types);
        method.setAccessible(true);
        method.invoke(owner, values);
    }

    /** The document's own answers have 1 to 4 or 10 bytes. */
    private static void answersOfEachLength() throws ReflectiveOperationException {
        Bench.says("ANSWERS of up to 7 bytes are sent in one frame: their number, and the bytes.");
        for (int length = 1; length <= 10; length++) {
            Bench b = new Bench();
            Object sender = part(b, "sender");
            call(sender, "begin", 11);
            for (int k = 1; k < length; k++) {
                call(sender, "add", 11 + k);
            }
            call(sender, "send");
            int[] want = new int[8];
            want[0] = length > 7 ? 16 : length;
            want[1] = length;
            int start = length > 7 ? 2 : 1;
            for (int k = 0; k < length && start + k < 8; k++) {
                want[start + k] = 11 + k;
            }
            Bench.due("the first frame of an answer of " + length, b.taken(), Bench.text(want));
            Bench.due("bytes to be sent", b.unit.state(7), length > 7 ? length - 6 : 0);
            Bench.due("what is behind it", b.taken(), "none");
        }
    }

    /** A unit whose answer waits with all its ten bytes, which makes two frames. */
    private static Bench withTwoFramesToSend() throws ReflectiveOperationException {
        Bench b = new Bench();
        b.frame(2, 34, 2);
        b.empty();
        set(b, "sender", "sent", 0);
        Bench.due("bytes to be sent", b.unit.state(7), 10);
        return b;
    }

    private static void answersOfSeveralFrames() throws ReflectiveOperationException {
        Bench.says("A frame 48, b that comes sends the next b frames of it (all, if b is 0):"
                + " 32 + their number (1, 2, .., modulo 16), up to 7 bytes; if there are more then, it waits anew.");
        for (int frames = 0; frames < 256; frames++) {
            Bench b = withTwoFramesToSend();
            int sent = frames == 1 ? 1 : 2;
            Bench.due("48 " + frames, b.frame(48, frames), sent);
            Bench.due("bytes to be sent", b.unit.state(7), frames == 1 ? 3 : 0);
            Bench.due("a request, none or one being kept out", b.frame(2, 62, 0), frames == 1 ? 1 : 3);
            Bench.due("the first of them", b.taken(), "33 98 2 0 1 2 3 4");
            b.frame(48, 1);
            Bench.due("the second of them", b.taken(), "34 5 6 7 0 0 0 0");
            Bench.due("bytes to be sent", b.unit.state(7), 0);
        }
    }

    private static void answersWaitAnew() throws ReflectiveOperationException {
        Bench.says("if an answer waits, and this is the fourth tick since it began to wait (anew), it is dropped;");
        Bench b = withTwoFramesToSend();
        b.ticks(3);
        b.frame(48, 1);
        b.ticks(3);
        Bench.due("bytes to be sent, 3 ticks after 48 1", b.unit.state(7), 3);
        b.ticks(1);
        Bench.due("bytes to be sent, 4 ticks after 48 1", b.unit.state(7), 0);
    }

    private static void framesOfAnswersComeRound() throws ReflectiveOperationException {
        Bench.says("A frame 48, b that comes sends the next b frames of it (all, if b is 0):"
                + " 32 + their number (1, 2, .., modulo 16), up to 7 bytes; if there are more then, it waits anew.");
        Bench b = withTwoFramesToSend();
        set(b, "sender", "number", 15);
        b.frame(48, 0);
        Bench.due("number 15", b.taken(), "47 98 2 0 1 2 3 4");
        Bench.due("number 16, modulo 16", b.taken(), "32 5 6 7 0 0 0 0");
    }

    private static void blocksComeRound() throws ReflectiveOperationException {
        Bench.says("115 if c isn't 1 more than the number of blocks that came, modulo 256;");
        Bench b = Bench.unlocked();
        b.askDue("116 8", 52, 1, 9);
        set(b, "download", "blocks", 255);
        b.askDue("118 255", 54, 255, 1);
        b.askDue("127 54 115", 54, 1, 1);
        b.askDue("118 0", 54, 0, 2);
        b.askDue("118 0", 54, 0, 3);
        b.askDue("127 54 115", 54, 255, 4);
        b.askDue("118 1", 54, 1, 5);
        Bench.due("the image", b.flash(48, 51), "2 5 255");
    }

    private static void tornMarks() throws ReflectiveOperationException {
        Bench.says("A POWER CUT is ordered with a number. The next writing (of a block; of serial and sum; of a mark)"
                + " or erasing of a sector is TORN then:");
        Bench b = new Bench();
        Object memory = part(b, "memory");
        Method write = memory.getClass().getDeclaredMethod("write", int.class, int[].class, int.class, int.class);
        write.setAccessible(true);
        b.unit.cut(0xFFFFFF0F);
        Object whole = write.invoke(memory, 80, new int[] {0}, 0, 1);
        Bench.due("whether all of a mark was written", (Boolean) whole, false);
        Bench.due("what is left of it", b.flash(80, 82), "240 255");
        Bench.due("whether a cut is ordered", b.unit.state(4), 0);
    }
}
