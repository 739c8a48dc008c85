import java.io.IOException;
import java.lang.reflect.Method;
import java.nio.file.Files;
import java.nio.file.Path;
import java.util.ArrayList;
import java.util.LinkedHashMap;
import java.util.List;
import java.util.Map;

/**
 * Whether each test's sentence stands in the document, and whether each sentence of the document has a test:
 * what no test quotes must be named below. Also compares the face of the document with the source, line by line.
 */
public final class DocumentTest {
    private static final Path DOCUMENT = Path.of("../shared/DOC.md");
    private static final Path SOURCE = Path.of("src/main/java/LanternTree.java");

    private static final Class<?>[] TESTS = {TermsTreeTest.class, TermsGardenersTest.class, TermsReadersTest.class,
        TermsTextTest.class, TermsActionsTest.class, Promises1To5Test.class, Promises6To13Test.class,
        Promises14To22Test.class, Promises23To29Test.class};

    // The face is compared line by line here, and by FaceTest; nothing in "Not promised" is asked for.
    private static final String[] WITHOUT_TESTS = {"LanternTree", "The public face", "Not promised"};

    // Introductions, and what is told of the interface's remarks.
    private static final String[] UNQUOTED = {
        "An index tree whose gardeners split and merge its nodes at night while readers walk through it with lanterns: "
            + "nodes that grow too full by day, links to the right by which a reader finds what was moved, merges that "
            + "are put off while somebody stands there, readers who are lost and begin again, oil that burns step by step.",
        "; what later calls answer is free.",
        "It tells how long a walk is, what the gardeners have to do, whom a night would let find its key, and how full "
            + "the tree is. Changes can be undone.",
        "Ahead of the calls `append`, `clearText`, `errorPosition`, `load` the interface says: ---- text. "
            + "Ahead of the calls `about`, `node`, `keyAt`, `child`, `find`, `sorted`, `fullness`, `reader` the interface "
            + "says: ---- the tree. "
            + "Ahead of the calls `insert`, `remove`, `tend`, `night`, `addReader`, `send`, `step`, `pour`, `undo` the "
            + "interface says: ---- actions.",
        "Ahead of the calls `runScript`, `simulate` the interface says: ---- scripts, simulations. "
            + "Ahead of the calls `save`, `restore` the interface says: ---- save slots."};

    private static final Due DUE = new Due();

    public static void main(String[] args) throws IOException {
        if (!Files.exists(DOCUMENT)) {
            System.out.println("there is no " + DOCUMENT + " here: nothing is compared");
            return;
        }
        List<String> lines = Files.readAllLines(DOCUMENT);
        Map<String, String> sections = sectionsOf(lines);
        Map<String, boolean[]> quoted = new LinkedHashMap<>();
        sections.forEach((name, text) -> quoted.put(name, new boolean[text.length()]));
        for (Class<?> tests : TESTS) {
            for (Method test : Sentences.of(tests)) {
                quote(sections, quoted, test);
            }
        }
        sections.forEach((name, text) -> tellUnquoted(name, text, quoted.get(name)));
        face(lines);
        DUE.end();
    }

    /** "Promise 2: append", "Terms: READERS" and so on, each with its text, its blanks and line ends made one blank. */
    private static Map<String, String> sectionsOf(List<String> lines) {
        Map<String, StringBuilder> texts = new LinkedHashMap<>();
        String chapter = "";
        String name = "";
        for (String line : lines) {
            if (line.startsWith("#")) {
                chapter = line.replaceFirst("#+ *", "");
                name = chapter;
            } else if (chapter.equals("Terms") && line.matches("[A-Z ]{4,}")) {
                name = chapter + ": " + line;
            } else if (!line.startsWith("```")) {
                texts.computeIfAbsent(name, n -> new StringBuilder()).append(line).append('\n');
            }
        }
        Map<String, String> sections = new LinkedHashMap<>();
        texts.forEach((n, text) -> sections.put(n, oneBlank(text.toString())));
        return sections;
    }

    private static String oneBlank(String text) {
        return text.replaceAll("\\s+", " ").trim();
    }

    private static void quote(Map<String, String> sections, Map<String, boolean[]> quoted, Method test) {
        Sentence sentence = test.getAnnotation(Sentence.class);
        String told = test.getDeclaringClass().getName() + "." + test.getName();
        String text = sections.getOrDefault(sentence.of(), "");
        String says = oneBlank(sentence.says());
        int from = text.indexOf(says);
        DUE.is(told + ": its sentence stands in \"" + sentence.of() + "\"", from >= 0 ? 1 : 0, 1);
        for (int at = from; at >= 0; at = text.indexOf(says, at + 1)) {
            for (int i = 0; i < says.length(); i++) {
                quoted.get(sentence.of())[at + i] = true;
            }
        }
    }

    private static void tellUnquoted(String name, String text, boolean[] quoted) {
        if (List.of(WITHOUT_TESTS).contains(name)) {
            return;
        }
        List<String> left = new ArrayList<>();
        StringBuilder run = new StringBuilder();
        for (int i = 0; i <= text.length(); i++) {
            if (i < text.length() && !quoted[i]) {
                run.append(text.charAt(i));
            } else if (run.length() > 0) {
                left.add(run.toString().trim());
                run.setLength(0);
            }
        }
        for (String words : left) {
            boolean signature = words.startsWith("`") && words.matches("`[^`]*`( :| -|:)?");
            boolean mark = words.matches("\\W*(and)?|[0-9]\\.");
            if (!signature && !mark && !List.of(UNQUOTED).contains(words)) {
                DUE.text("a test for this in \"" + name + "\"", "none", words);
            }
        }
    }

    private static void face(List<String> lines) throws IOException {
        List<String> source = Files.readAllLines(SOURCE);
        int compared = 0;
        for (String line : lines) {
            boolean method = line.startsWith("    public ") && line.endsWith(";");
            String due = line.contains(" NONE ") ? line : line.replaceFirst(";$", " {");
            if (method) {
                compared++;
                DUE.is("the source has the line \"" + due.trim() + "\"", source.contains(due) ? 1 : 0, 1);
            }
        }
        DUE.is("members of the face", compared, 30);
    }
}
