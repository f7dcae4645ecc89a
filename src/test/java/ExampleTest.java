import java.io.IOException;
import java.nio.file.Files;
import java.nio.file.Path;

/** Runs README.md's example, and sees to it that README.md shows these very lines. */
public final class ExampleTest {
    private static final Path READ_ME = Path.of("README.md");
    private static final Path ITSELF = Path.of("src/test/java/ExampleTest.java");
    private static final String INDENT = "        ";

    public static void main(String[] args) throws IOException {
        runExample();
        readMeShowsTheExample();
        readMeNamesTheFace();
        Bench.end();
    }

    private static void runExample() {
        // The example begins.
        TwinLoader unit = new TwinLoader();
        int waiting = unit.frame(0x02220000, 0);    // the request 34 0: which slot runs? 1 frame waits
        int length = unit.peek(0);                  // 3: an answer of three bytes,
        int slot = unit.peek(3);                    // 98 0 0: slot 0 runs
        boolean taken = unit.take();                // true: the answer was there to be taken
        boolean another = unit.take();              // false: no other frame waits
        int nothing = unit.peek(0);                 // TwinLoader.NONE
        unit.frame(0x02100200, 0);                  // the request 16 2
        int session = unit.state(1);                // 2
        for (int k = 0; k < 10; k++) {
            unit.tick();                            // time passes by ticks alone
        }
        int sessionLater = unit.state(1);           // 1: ten ticks without a request
        unit.cut(0x0F0F0F0F);                       // the next writing or erasing will be torn
        int ordered = unit.state(4);                // 1
        unit.restart();                             // boots; the cut stays ordered
        int serial = unit.flash(33);                // 1: byte 1 of the header of slot 0
        int header = unit.word(32);                 // 0x000123B3: its mark, serial and sum
        // The example ends.
        Bench.due("waiting", waiting, 1);
        Bench.due("length", length, 3);
        Bench.due("slot", slot, 0);
        Bench.due("taken", taken, true);
        Bench.due("another", another, false);
        Bench.due("nothing", nothing, TwinLoader.NONE);
        Bench.due("session", session, 2);
        Bench.due("sessionLater", sessionLater, 1);
        Bench.due("ordered", ordered, 1);
        Bench.due("a cut that stays ordered", unit.state(4), 1);
        Bench.due("serial", serial, 1);
        Bench.due("header", header, 0x000123B3);
    }

    private static void readMeShowsTheExample() throws IOException {
        String source = Files.readString(ITSELF);
        int from = source.indexOf("// The example begins.\n");
        int to = source.indexOf(INDENT + "// The example ends.\n");
        Bench.due("whether the example stands here", from >= 0 && to > from, true);
        String lines = source.substring(source.indexOf('\n', from) + 1, to);
        String shown = lines.replaceAll("(?m)^" + INDENT, "");
        Bench.due("whether README.md shows the example", readMe().contains("```java\n" + shown + "```\n"), true);
    }

    private static void readMeNamesTheFace() throws IOException {
        String[] face = {"TwinLoader()", "int frame(int front, int rest)", "int peek(int k)", "boolean take()",
            "void tick()", "void cut(int number)", "void restart()", "int flash(int at)", "int word(int at)",
            "int state(int what)", "TwinLoader.NONE"};
        for (String member : face) {
            Bench.due("whether README.md tells of " + member, readMe().contains("| `" + member + "` |"), true);
        }
    }

    private static String readMe() throws IOException {
        return Files.readString(READ_ME);
    }
}
