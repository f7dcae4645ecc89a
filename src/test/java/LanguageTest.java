import java.io.IOException;
import java.lang.reflect.Field;
import java.lang.reflect.Method;
import java.lang.reflect.Modifier;
import java.nio.file.Files;
import java.nio.file.Path;
import java.util.ArrayList;
import java.util.List;
import java.util.Set;
import java.util.TreeSet;
import java.util.regex.Matcher;
import java.util.regex.Pattern;

/** The rules of LANGUAGE.md that can be read off the program's file and classes. */
public final class LanguageTest {
    private static final Path PROGRAM = Path.of("src/main/java/TwinLoader.java");

    /** A method or constructor from its first line to the brace that stands below its beginning. */
    private static final Pattern BODY = Pattern.compile(
            "(?ms)^( +)((?:public |private |static )*(?:[\\w\\[\\]]+ )?(\\w+)\\(([^)]*)\\)) \\{\\n(.*?)^\\1\\}$");

    private static String code;

    public static void main(String[] args) throws IOException {
        code = Files.readString(PROGRAM).replaceAll("(?s)/\\*.*?\\*/", "").replaceAll("//[^\\n]*", "");
        visibleMembers();
        namesOfPrivateMethods();
        staticFields();
        types();
        wordsThatAreRuledOut();
        sizes();
        objectsAreMadeInConstructors();
        callsGoEightDeep();
        Bench.end();
    }

    private static List<Class<?>> classes() {
        List<Class<?>> all = new ArrayList<>(List.of(TwinLoader.class.getDeclaredClasses()));
        all.add(0, TwinLoader.class);
        return all;
    }

    private static void visibleMembers() {
        for (Class<?> inside : TwinLoader.class.getDeclaredClasses()) {
            int modifiers = inside.getModifiers();
            Bench.due("rule 1: " + inside + " is seen from outside",
                    Modifier.isPublic(modifiers) || Modifier.isProtected(modifiers), false);
            Bench.due("rule 1: " + inside + " is static", Modifier.isStatic(modifiers), true);
            Bench.due("rule 11: classes inside " + inside, inside.getDeclaredClasses().length, 0);
        }
    }

    private static void namesOfPrivateMethods() {
        Set<String> face = new TreeSet<>();
        for (Method method : TwinLoader.class.getMethods()) {
            face.add(method.getName());
        }
        for (Method method : TwinLoader.class.getDeclaredMethods()) {
            boolean hidden = !Modifier.isPublic(method.getModifiers());
            Bench.due("rule 1: " + method + " bears a public name", hidden && face.contains(method.getName()), false);
        }
    }

    private static void staticFields() {
        for (Class<?> type : classes()) {
            for (Field field : type.getDeclaredFields()) {
                if (Modifier.isStatic(field.getModifiers())) {
                    Bench.due("rule 5: " + field + " is final", Modifier.isFinal(field.getModifiers()), true);
                    Bench.due("rule 5: the type of " + field, field.getType().getName(), "int");
                }
            }
        }
    }

    private static void types() {
        for (Class<?> type : classes()) {
            for (Field field : type.getDeclaredFields()) {
                Class<?> held = field.getType();
                boolean plain = held == int.class || held == boolean.class || held == int[].class;
                Bench.due("rule 3: the type of " + field, plain || classes().contains(held), true);
            }
        }
    }

    private static void wordsThatAreRuledOut() {
        String[] words = {"package", "import", "synchronized", "assert", "finally", "try", "catch", "throw", "throws",
            "volatile", "native", "transient", "enum", "record", "interface", "extends", "implements", "double",
            "float", "Object", "String", "System", "Integer", "equals", "hashCode", "toString", "protected", "var"};
        for (String word : words) {
            boolean found = Pattern.compile("\\b" + word + "\\b").matcher(code).find();
            Bench.due("whether the program says " + word, found, false);
        }
        String[] signs = {"->", "::", "@", "\"", "/ ", "static {"};
        for (String sign : signs) {
            Bench.due("whether the program has " + sign, code.contains(sign), false);
        }
        Matcher library = Pattern.compile("\\bMath\\.(\\w+)").matcher(code);
        while (library.find()) {
            Bench.due("rule 4: Math." + library.group(1), library.group(1), "max");
        }
        Matcher divisors = Pattern.compile("% ([^ ;)]+)").matcher(code);
        while (divisors.find()) {
            Bench.due("rule 7: " + divisors.group() + " may divide by 0",
                    divisors.group(1).matches("[1-9]|[A-Z_]+"), true);
        }
    }

    private static void sizes() {
        Bench.due("rule 11: more than twelve classes", classes().size() > 12, false);
        for (Class<?> type : classes()) {
            int fields = 0;
            for (Field field : type.getDeclaredFields()) {
                fields += Modifier.isStatic(field.getModifiers()) ? 0 : 1;
            }
            Bench.due("rule 11: more than twenty fields in " + type, fields > 20, false);
        }
        int methods = 0;
        for (Matcher each = BODY.matcher(code); each.find();) {
            int lines = each.group(5).split("\n").length;
            int parameters = each.group(4).isEmpty() ? 0 : each.group(4).split(",").length;
            Bench.due("rule 11: more than sixty lines in " + each.group(2), lines > 60, false);
            Bench.due("rule 11: more than seven parameters of " + each.group(2), parameters > 7, false);
            methods += isConstructor(each.group(3)) ? 0 : 1;
        }
        int declared = 0;
        for (Class<?> type : classes()) {
            declared += type.getDeclaredMethods().length;
        }
        Bench.due("the methods that were found in the file", methods, declared);
    }

    private static boolean isConstructor(String name) {
        return Character.isUpperCase(name.charAt(0));
    }

    /** A call that makes nothing takes nothing of the room that all calls share. */
    private static void objectsAreMadeInConstructors() {
        for (Matcher each = BODY.matcher(code); each.find();) {
            boolean makes = Pattern.compile("\\b(new|clone|copyOf\\w*)\\b").matcher(each.group(5)).find();
            Bench.due("rule 12: " + each.group(2) + " makes an object", makes && !isConstructor(each.group(3)), false);
        }
    }

    /** Methods are told apart by their names alone, which can only make a call seem deeper than it is. */
    private static void callsGoEightDeep() {
        List<String> names = new ArrayList<>();
        List<String> bodies = new ArrayList<>();
        for (Matcher each = BODY.matcher(code); each.find();) {
            names.add(each.group(3));
            bodies.add(each.group(5));
        }
        for (String name : names) {
            int depth = depthOf(name, names, bodies, 1);
            Bench.due("rules 8 and 11: " + name + " goes more than eight deep", depth > 8, false);
        }
    }

    private static int depthOf(String name, List<String> names, List<String> bodies, int depth) {
        if (depth > 8) {
            return depth;
        }
        int deepest = depth;
        for (int k = 0; k < names.size(); k++) {
            if (names.get(k).equals(name)) {
                for (String called : calledIn(bodies.get(k), names)) {
                    deepest = Math.max(deepest, depthOf(called, names, bodies, depth + 1));
                }
            }
        }
        return deepest;
    }

    private static Set<String> calledIn(String body, List<String> names) {
        Set<String> called = new TreeSet<>();
        Matcher calls = Pattern.compile("\\b(\\w+)\\(").matcher(body);
        while (calls.find()) {
            if (names.contains(calls.group(1))) {
                called.add(calls.group(1));
            }
        }
        return called;
    }
}
