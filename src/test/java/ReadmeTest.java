import java.io.ByteArrayOutputStream;
import java.io.IOException;
import java.io.PrintStream;
import java.lang.invoke.MethodHandles;
import java.lang.reflect.Method;
import java.lang.reflect.Modifier;
import java.nio.file.Files;
import java.nio.file.Path;
import java.util.ArrayList;
import java.util.List;
import java.util.regex.Matcher;
import java.util.regex.Pattern;
import java.util.stream.Stream;
import javax.tools.ToolProvider;

/**
 * README.md: each call of its examples answers what stands behind it, its program prints what stands
 * below it, and each test is named. The examples are compiled as they stand there.
 */
public final class ReadmeTest {
    private static final Path README = Path.of("README.md");
    private static final Path TESTS = Path.of("src/test/java");

    private static final Pattern BLOCK = Pattern.compile("(?ms)^```(\\w+)\n(.*?)^```$");
    private static final Pattern TOLD = Pattern.compile("(\\S.*\\));\\s*// (throws \\w+|-?[0-9.]+f?)\\b.*");

    private static final Due DUE = new Due();

    public static void main(String[] args) throws Exception {
        String readme = Files.readString(README);
        calls(blocks(readme, "java"));
        program(blocks(readme, "java"), blocks(readme, "text"));
        everyTestIsNamed(readme);
        everyMethodIsCalled(blocks(readme, "java"));
        DUE.end();
    }

    private static List<String> blocks(String readme, String language) {
        List<String> found = new ArrayList<>();
        Matcher m = BLOCK.matcher(readme);
        while (m.find()) {
            if (m.group(1).equals(language)) {
                found.add(m.group(2));
            }
        }
        return found;
    }

    private static boolean isProgram(String block) {
        return block.startsWith("public final class ");
    }

    /** All examples as one program, in which each told answer is compared with the one that is given. */
    private static void calls(List<String> blocks) throws Exception {
        StringBuilder source = new StringBuilder("final class Examples {\n    static void compare(Due due) {\n");
        int compared = 0;
        for (String block : blocks) {
            for (String line : isProgram(block) ? new String[0] : block.split("\n")) {
                Matcher told = TOLD.matcher(line);
                boolean compares = told.matches();
                compared += compares ? 1 : 0;
                source.append(compares ? comparison(told.group(1), told.group(2)) : line).append('\n');
            }
        }
        source.append("    }\n}\n");
        DUE.is("some examples are compared", compared > 40 ? 1 : 0, 1);
        Method compare = compiled("Examples", source.toString()).getDeclaredMethod("compare", Due.class);
        compare.setAccessible(true);
        compare.invoke(null, DUE);
    }

    private static String comparison(String call, String due) {
        String named = "\"README: " + call.replace("\"", "\\\"") + "\", ";
        if (due.startsWith("throws ")) {
            return "due.thrown(" + named + "() -> " + call + ", \"" + due.substring(7) + "\");";
        }
        return (due.endsWith("f") ? "due.isFloat(" : "due.is(") + named + call + ", " + due + ");";
    }

    private static void program(List<String> blocks, List<String> outputs) throws Exception {
        int programs = 0;
        for (String block : blocks) {
            if (isProgram(block)) {
                String name = block.split(" ")[3];
                String due = programs < outputs.size() ? outputs.get(programs) : "an output that is told";
                DUE.text("README: what " + name + " prints", printed(compiled(name, block)), due);
                programs++;
            }
        }
        DUE.is("programs in the README", programs, outputs.size());
    }

    private static String printed(Class<?> program) throws Exception {
        PrintStream before = System.out;
        ByteArrayOutputStream kept = new ByteArrayOutputStream();
        System.setOut(new PrintStream(kept, true));
        try {
            program.getMethod("main", String[].class).invoke(null, (Object) new String[0]);
        } finally {
            System.setOut(before);
        }
        return kept.toString().replace(System.lineSeparator(), "\n");
    }

    private static Class<?> compiled(String name, String source) throws Exception {
        Path folder = Files.createTempDirectory("readme");
        Path file = folder.resolve(name + ".java");
        Files.writeString(file, source);
        int failed = ToolProvider.getSystemJavaCompiler().run(null, null, null,
            "-cp", System.getProperty("java.class.path"), "-d", folder.toString(), file.toString());
        DUE.is("README: compiling " + name, failed, 0);
        Path compiled = folder.resolve(name + ".class");
        // No loader of its own: Due can only be used by classes of the same one.
        Class<?> made = MethodHandles.lookup().defineClass(Files.readAllBytes(compiled));
        for (Path left : List.of(compiled, file, folder)) {
            Files.delete(left);
        }
        return made;
    }

    private static void everyTestIsNamed(String readme) throws IOException {
        try (Stream<Path> files = Files.list(TESTS)) {
            for (Path file : (Iterable<Path>) files.sorted()::iterator) {
                String name = file.getFileName().toString().replace(".java", "");
                boolean named = !name.endsWith("Test") || readme.contains("`" + name + "`");
                DUE.is("the README names " + name, named ? 1 : 0, 1);
            }
        }
    }

    private static void everyMethodIsCalled(List<String> blocks) {
        String all = String.join("", blocks);
        for (Method m : LanternTree.class.getDeclaredMethods()) {
            boolean called = !Modifier.isPublic(m.getModifiers()) || all.contains("." + m.getName() + "(");
            DUE.is("an example calls " + m.getName(), called ? 1 : 0, 1);
        }
    }
}
