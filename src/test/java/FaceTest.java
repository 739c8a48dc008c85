import java.io.IOException;
import java.lang.reflect.Field;
import java.lang.reflect.Method;
import java.lang.reflect.Modifier;
import java.nio.file.Files;
import java.nio.file.Path;
import java.util.Arrays;
import java.util.TreeSet;

/** The public face of the document and nothing beside it, and what of LANGUAGE.md can be seen from outside. */
public final class FaceTest {
    private static final Due DUE = new Due();
    private static final Path SOURCE = Path.of("src/main/java/LanternTree.java");

    private static final String[] FACE = {"about int", "addReader int", "append int", "behindNight int int",
        "child int int", "clearText", "errorPosition", "find int", "fullness", "insert int", "keyAt int int", "load",
        "night int", "node int int", "pour int int", "reader int int", "remove int", "restore int",
        "runScript int long", "save int", "send int int", "simulate long int", "sorted int", "step int", "tend",
        "undo", "walk int", "work"};

    private static final String[] RULED_OUT = {"import ", "synchronized", "assert ", "finally", "catch", "->", "::",
        "static float", "static double", "System.out", "Math.random", "Exact(", "equals(", "hashCode(", "toString("};

    public static void main(String[] args) throws IOException {
        face();
        nestedClasses();
        limits(LanternTree.class);
        for (Class<?> nested : LanternTree.class.getDeclaredClasses()) {
            limits(nested);
        }
        source();
        methodLengths();
        DUE.end();
    }

    private static void face() {
        TreeSet<String> seen = new TreeSet<>();
        TreeSet<String> hidden = new TreeSet<>();
        for (Method m : LanternTree.class.getDeclaredMethods()) {
            StringBuilder told = new StringBuilder(m.getName());
            for (Class<?> type : m.getParameterTypes()) {
                told.append(' ').append(type.getName());
            }
            if (Modifier.isPrivate(m.getModifiers())) {
                hidden.add(m.getName());
                continue;
            }
            seen.add(told.toString());
            String due = m.getName().equals("fullness") ? "float" : "int";
            DUE.is(told + " answers " + due, m.getReturnType().getName().equals(due) ? 1 : 0, 1);
            DUE.is(told + " is public", m.getModifiers(), Modifier.PUBLIC);
        }
        DUE.is("the methods " + seen, seen.equals(new TreeSet<>(Arrays.asList(FACE))) ? 1 : 0, 1);
        for (String method : FACE) {
            DUE.is("no private " + method, hidden.contains(method.split(" ")[0]) ? 1 : 0, 0);
        }
        for (Field f : LanternTree.class.getDeclaredFields()) {
            int due = f.getName().equals("NONE") ? Modifier.PUBLIC : Modifier.PRIVATE;
            int shown = f.getModifiers() & (Modifier.PUBLIC | Modifier.PROTECTED | Modifier.PRIVATE);
            DUE.is("field " + f.getName(), shown, due);
        }
        DUE.is("the class", LanternTree.class.getModifiers(), Modifier.PUBLIC | Modifier.FINAL);
        DUE.is("constructors", LanternTree.class.getDeclaredConstructors().length, 1);
        DUE.is("NONE", LanternTree.NONE, -1);
    }

    private static void nestedClasses() {
        for (Class<?> nested : LanternTree.class.getDeclaredClasses()) {
            DUE.is(nested + " is static", Modifier.isStatic(nested.getModifiers()) ? 1 : 0, 1);
            DUE.is(nested + " is public", Modifier.isPublic(nested.getModifiers()) ? 1 : 0, 0);
            for (Method m : nested.getDeclaredMethods()) {
                for (String method : FACE) {
                    boolean same = m.getName().equals(method.split(" ")[0]);
                    DUE.is(nested + " has a method " + method, same ? 1 : 0, 0);
                }
            }
        }
    }

    /** Rules 1, 5 and 11: few fields, no static state, few parameters. */
    private static void limits(Class<?> type) {
        int fields = 0;
        for (Field f : type.getDeclaredFields()) {
            boolean constant = Modifier.isStatic(f.getModifiers());
            fields += constant ? 0 : 1;
            boolean plain = f.getType().isPrimitive() && f.getType() != float.class && f.getType() != double.class;
            boolean allowed = !constant || Modifier.isFinal(f.getModifiers()) && (plain || f.getType() == String.class);
            DUE.is(type + "." + f.getName() + " is allowed", allowed ? 1 : 0, 1);
        }
        DUE.is(type + " has few fields", fields <= 20 ? 1 : 0, 1);
        for (Method m : type.getDeclaredMethods()) {
            DUE.is(m + " has few parameters", m.getParameterCount() <= 7 ? 1 : 0, 1);
        }
        DUE.is("classes inside", LanternTree.class.getDeclaredClasses().length <= 12 ? 1 : 0, 1);
    }

    /** Rule 11: a method that begins with its name and ends with a brace of the same depth has some sixty lines at most. */
    private static void methodLengths() throws IOException {
        String begun = "";
        int lines = 0;
        for (String line : Files.readAllLines(SOURCE)) {
            boolean begins = line.matches(" {4}( {4})?(public|private) .*\\).*\\{");
            begun = begins ? line : begun;
            lines = begins ? 0 : lines + 1;
            if (!begun.isEmpty() && line.equals(begun.replaceFirst("\\S.*", "}"))) {
                DUE.is("the lines of \"" + begun.trim() + "\" are few", lines <= 60 ? 1 : 0, 1);
                begun = "";
            }
        }
    }

    private static void source() throws IOException {
        String text = Files.readString(SOURCE);
        for (String word : RULED_OUT) {
            DUE.is("the source has " + word, text.contains(word) ? 1 : 0, 0);
        }
        for (int i = 0; i < text.length(); i++) {
            DUE.is("sign " + i, text.charAt(i) < 128 ? 1 : 0, 1);
        }
    }
}
