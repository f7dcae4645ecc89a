import java.lang.reflect.Constructor;
import java.lang.reflect.Field;
import java.lang.reflect.Method;
import java.lang.reflect.Modifier;
import java.util.TreeSet;

/** The public face: the document's members and no other that can be seen from outside. */
public final class FaceTest {
    public static void main(String[] args) {
        theFace();
        theConstants();
        Bench.end();
    }

    private static void theFace() {
        Bench.says("public final class TwinLoader { public static final int NONE = -1; public TwinLoader();"
                + " public int frame(int front, int rest); public int peek(int k); public boolean take();"
                + " public void tick(); public void cut(int number); public void restart();"
                + " public int flash(int at); public int word(int at); public int state(int what); }");
        Class<?> type = TwinLoader.class;
        Bench.due("public and final", type.getModifiers(), Modifier.PUBLIC | Modifier.FINAL);
        TreeSet<String> seen = new TreeSet<>();
        for (Field each : type.getDeclaredFields()) {
            addVisible(seen, each.getModifiers(), each.toString());
        }
        for (Constructor<?> each : type.getDeclaredConstructors()) {
            addVisible(seen, each.getModifiers(), each.toString());
        }
        for (Method each : type.getDeclaredMethods()) {
            addVisible(seen, each.getModifiers(), each.toString());
        }
        Bench.due("the face", String.join("; ", seen), String.join("; ", new TreeSet<>(java.util.List.of(
                "public static final int TwinLoader.NONE",
                "public TwinLoader()",
                "public int TwinLoader.frame(int,int)",
                "public int TwinLoader.peek(int)",
                "public boolean TwinLoader.take()",
                "public void TwinLoader.tick()",
                "public void TwinLoader.cut(int)",
                "public void TwinLoader.restart()",
                "public int TwinLoader.flash(int)",
                "public int TwinLoader.word(int)",
                "public int TwinLoader.state(int)"))));
    }

    private static void theConstants() {
        Bench.says("The constants: `NONE = -1`: Nothing there.");
        Bench.due("NONE", TwinLoader.NONE, -1);
    }

    private static void addVisible(TreeSet<String> seen, int modifiers, String text) {
        if (!Modifier.isPrivate(modifiers)) {
            seen.add(text);
        }
    }
}
