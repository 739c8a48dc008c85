/** Each sentence of the promises 1 to 5: a new object, and the text. */
public final class Promises1To5Test {
    private static final String P1 = "Promise 1: A new object";
    private static final String P2 = "Promise 2: append";
    private static final String P3 = "Promise 3: clearText";
    private static final String P4 = "Promise 4: errorPosition";
    private static final String P5 = "Promise 5: load";

    public static void main(String[] args) {
        Sentences.test(Promises1To5Test.class, args);
    }

    @Sentence(of = P1, says = "Creates a tree of order 3 without keys.")
    static void newObject(Due due) {
        LanternTree tree = new LanternTree();
        int[] about = {3, 0, 1, 0, 0, 0, 1, 0, 0, 0, 0};
        for (int what = 0; what < about.length; what++) {
            due.is("about(" + what + ")", tree.about(what), about[what]);
        }
        due.text("node 0", Look.node(tree, 0), "leaf []");
    }

    @Sentence(of = P1, says = "Creates a tree of order 3 without keys.")
    static void newObjectHasNothingElse(Due due) {
        LanternTree tree = new LanternTree();
        due.is("clearText()", tree.clearText(), 0);
        due.throwsState("undo()", tree::undo);
        due.throwsState("restore(0)", () -> tree.restore(0));
        due.throwsState("restore(1)", () -> tree.restore(1));
        due.throwsIndex("reader(0, 0)", () -> tree.reader(0, 0));
        due.throwsIndex("node(1, 0)", () -> tree.node(1, 0));
    }

    @Sentence(of = P1, says = "Creates a tree of order 3 without keys.")
    static void objectsShareNothing(Due due) {
        LanternTree one = new LanternTree();
        LanternTree other = new LanternTree();
        one.insert(5);
        one.append('L');
        one.save(0);
        due.is("about(1) of the other one", other.about(1), 0);
        due.is("clearText() of the other one", other.clearText(), 0);
        due.throwsState("restore(0) of the other one", () -> other.restore(0));
        due.throwsState("undo() of the other one", other::undo);
    }

    @Sentence(of = P2, says = "Appends a character to the text buffer.")
    static void appendGoesToTheEnd(Due due) {
        LanternTree tree = new LanternTree();
        Due.write(tree, "L5i00");
        due.is("errorPosition()", tree.errorPosition(), 5);
        tree.append('7');
        due.is("errorPosition() of a garden", tree.errorPosition(), -1);
        tree.load();
        due.is("sorted(0)", tree.sorted(0), 7);
    }

    @Sentence(of = P2, says = "`c`: character code, 0 to 255")
    static void leastAndGreatestCode(Due due) {
        LanternTree tree = new LanternTree();
        due.is("append(0)", tree.append(0), 1);
        due.is("append(255)", tree.append(255), 2);
        due.is("append(128)", tree.append(128), 3);
        due.is("clearText()", tree.clearText(), 3);
    }

    @Sentence(of = P2, says = "Returns the new length of the text.")
    static void lengthsFrom1To100(Due due) {
        LanternTree tree = new LanternTree();
        for (int length = 1; length <= 100; length++) {
            due.is("append('t')", tree.append('t'), length);
        }
        tree.clearText();
        due.is("append('t') behind clearText()", tree.append('t'), 1);
    }

    @Sentence(of = P2, says = "Throws `IllegalArgumentException` if c is out of range")
    static void codeTooSmallOrTooLarge(Due due) {
        LanternTree tree = new LanternTree();
        int[] wrong = {-1, 256, 332, Integer.MIN_VALUE, Integer.MAX_VALUE};
        for (int c : wrong) {
            due.throwsArgument("append(" + c + ")", () -> tree.append(c));
        }
        due.is("clearText()", tree.clearText(), 0);
    }

    @Sentence(of = P2, says = "Throws `IllegalStateException` if the text already has 100 characters")
    static void hundredAndFirstCharacter(Due due) {
        LanternTree tree = new LanternTree();
        Due.write(tree, "t".repeat(99));
        due.is("append('t') to 99", tree.append('t'), 100);
        due.throwsState("append('t') to 100", () -> tree.append('t'));
        due.throwsState("append(0) to 100", () -> tree.append(0));
        due.throwsArgument("append(256) to 100", () -> tree.append(256));
        due.is("clearText()", tree.clearText(), 100);
        due.is("append('t') then", tree.append('t'), 1);
    }

    @Sentence(of = P3, says = "Empties the text buffer.")
    static void nothingIsLeftBehindClearText(Due due) {
        LanternTree tree = new LanternTree();
        Due.write(tree, "L2i001");
        tree.clearText();
        due.is("errorPosition()", tree.errorPosition(), 0);
        due.throwsState("load()", tree::load);
        Due.write(tree, "L2i");
        due.is("errorPosition() of a shorter text", tree.errorPosition(), 3);
    }

    @Sentence(of = P3, says = "Returns the previous length of the text.")
    static void lengthsBeforeClearText(Due due) {
        LanternTree tree = new LanternTree();
        due.is("clearText() of no text", tree.clearText(), 0);
        tree.append('x');
        due.is("clearText() of 1", tree.clearText(), 1);
        due.is("clearText() again", tree.clearText(), 0);
        Due.write(tree, "x".repeat(100));
        due.is("clearText() of 100", tree.clearText(), 100);
    }

    @Sentence(of = P3, says = "Empties the text buffer.")
    static void clearTextLeavesTheTree(Due due) {
        LanternTree tree = Due.garden("L5i001r002");
        tree.save(0);
        tree.insert(2);
        tree.clearText();
        due.is("about(0)", tree.about(0), 5);
        due.is("about(1)", tree.about(1), 2);
        due.is("about(10)", tree.about(10), 1);
        due.is("undo()", tree.undo(), 0);
        due.is("restore(0)", tree.restore(0), 1);
    }

    @Sentence(of = P4, says = "Checks the text.")
    static void checkingChangesNothing(Due due) {
        LanternTree tree = Due.garden("L4i001");
        tree.append('x');
        String before = Look.all(tree);
        due.is("errorPosition()", tree.errorPosition(), 6);
        due.is("errorPosition() again", tree.errorPosition(), 6);
        due.text("the state", Look.all(tree), before);
        due.is("clearText()", tree.clearText(), 7);
    }

    @Sentence(of = P4, says = "Returns the error position of the text; NONE if it is a garden.")
    static void gardenAndNoGarden(Due due) {
        String[] texts = {"", "L", "L2", "L6", "L7", "L2t", "L2x", "L2i000", "L2s3", "L2s4", "L2i000d999tr500s0"};
        int[] positions = {0, 1, -1, -1, 1, -1, 2, -1, -1, 3, -1};
        for (int i = 0; i < texts.length; i++) {
            LanternTree tree = new LanternTree();
            Due.write(tree, texts[i]);
            due.is("errorPosition() of " + texts[i], tree.errorPosition(), positions[i]);
        }
    }

    @Sentence(of = P4, says = "Returns the error position of the text; NONE if it is a garden.")
    static void commandsThatAreLeftOutAreNoError(Due due) {
        LanternTree tree = new LanternTree();
        Due.write(tree, "L2s0s1i001i001d002");
        due.is("errorPosition()", tree.errorPosition(), -1);
    }

    @Sentence(of = P5, says = "Replaces everything by the garden of the text.")
    static void loadReplacesTheTreeAndTheReaders(Due due) {
        LanternTree tree = Due.garden(Gardens.THREE_LEVELS + "r004s0d000t");
        tree.clearText();
        Due.write(tree, "L5i017");
        tree.load();
        due.text("the state", Look.all(tree), Look.all(Due.garden("L5i017")));
        int[] about = {5, 1, 1, 0, 0, 0, 1, 0, 0, 0, 0};
        for (int what = 0; what < about.length; what++) {
            due.is("about(" + what + ")", tree.about(what), about[what]);
        }
        due.throwsIndex("node(1, 0)", () -> tree.node(1, 0));
        due.throwsIndex("reader(0, 0)", () -> tree.reader(0, 0));
    }

    @Sentence(of = P5, says = "Replaces everything by the garden of the text.")
    static void loadOfAGardenWithoutCommands(Due due) {
        LanternTree tree = Due.garden(Gardens.THREE_LEVELS);
        tree.clearText();
        Due.write(tree, "L3");
        due.is("load()", tree.load(), 0);
        due.text("the state", Look.all(tree), Look.all(Due.garden("L3")));
    }

    @Sentence(of = P5, says = "Replaces everything by the garden of the text.")
    static void newReadersHaveNothingOfOldOnes(Due due) {
        LanternTree tree = Due.garden(Gardens.ROOT_LEFT + "s0s0");
        tree.pour(0, 50);
        tree.clearText();
        Due.write(tree, "L2r007");
        tree.load();
        due.text("reader 0", Look.reader(tree, 0), "on 0 for 7 walks, 0 steps, 0 times lost, oil 4000");
    }

    @Sentence(of = P5, says = "Replaces everything by the garden of the text.")
    static void loadTwice(Due due) {
        LanternTree tree = Due.garden(Gardens.THREE_LEAVES + "d010tr020s0");
        String first = Look.all(tree);
        tree.night(9);
        due.is("load()", tree.load(), 0);
        due.text("the state", Look.all(tree), first);
    }

    @Sentence(of = P5, says = "Forgets all remembered states and empties both save slots.")
    static void loadForgets(Due due) {
        LanternTree tree = Due.garden("L2");
        for (int key = 0; key < 20; key++) {
            tree.remove(key);
        }
        due.is("undo()", tree.undo(), 13);
        tree.load();
        due.throwsState("undo() behind load()", tree::undo);
        tree.insert(1);
        due.is("undo() of what came then", tree.undo(), 0);
    }

    @Sentence(of = P5, says = "Forgets all remembered states and empties both save slots.")
    static void loadEmptiesBothSlots(Due due) {
        LanternTree tree = Due.garden("L2");
        tree.save(0);
        tree.save(1);
        tree.load();
        due.throwsState("restore(0) behind load()", () -> tree.restore(0));
        due.throwsState("restore(1) behind load()", () -> tree.restore(1));
        tree.save(1);
        due.throwsState("restore(0) still", () -> tree.restore(0));
        due.is("restore(1)", tree.restore(1), 0);
    }

    @Sentence(of = P5, says = "Keeps the text.")
    static void loadKeepsTheText(Due due) {
        LanternTree tree = new LanternTree();
        Due.write(tree, "L5i017");
        tree.load();
        due.is("errorPosition()", tree.errorPosition(), -1);
        due.is("append('t')", tree.append('t'), 7);
        due.is("clearText()", tree.clearText(), 7);
    }

    @Sentence(of = P5, says = "Returns the number of commands that are left out.")
    static void numberOfCommandsLeftOut(Due due) {
        String[] texts = {"L2", "L2s0", "L2s0s1s2s3", "L2r001s0s0", "L2i001i002i003i004i005i006", "L6r000r001r002r003r004",
            "L2" + "s0".repeat(49)};
        int[] out = {0, 1, 4, 1, 2, 1, 49};
        for (int i = 0; i < texts.length; i++) {
            LanternTree tree = new LanternTree();
            Due.write(tree, texts[i]);
            due.is("load() of " + texts[i], tree.load(), out[i]);
        }
    }

    @Sentence(of = P5, says = "Throws `IllegalStateException` if the text is not a garden")
    static void loadOfNoGarden(Due due) {
        String[] texts = {"", "L", "L1", "L2i", "L2i00", "L2 ", "L2i001x"};
        for (String text : texts) {
            LanternTree tree = Due.garden("L4i001");
            tree.save(0);
            tree.insert(2);
            tree.clearText();
            Due.write(tree, text);
            due.throwsState("load() of \"" + text + "\"", tree::load);
            due.is("about(0)", tree.about(0), 4);
            due.is("about(1)", tree.about(1), 2);
            due.is("undo()", tree.undo(), 0);
            due.is("restore(0)", tree.restore(0), 1);
            due.is("clearText()", tree.clearText(), text.length());
        }
    }
}
