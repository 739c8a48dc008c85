/** Promises 1 to 5: a new object, and the text. */
public final class TextTest {
    private static final Due DUE = new Due();

    public static void main(String[] args) {
        newObject();
        append();
        clearText();
        errorPosition();
        loadOfNoGarden();
        loadReplaces();
        loadLeavesOut();
        DUE.end();
    }

    private static void newObject() {
        LanternTree tree = new LanternTree();
        int[] about = {3, 0, 1, 0, 0, 0, 1, 0, 0, 0, 0};
        for (int what = 0; what < about.length; what++) {
            DUE.is("new: about(" + what + ")", tree.about(what), about[what]);
        }
        int[] root = {0, 0, -1, -1, 0, 0};
        for (int what = 0; what < root.length; what++) {
            DUE.is("new: node(0, " + what + ")", tree.node(0, what), root[what]);
        }
        DUE.is("new: errorPosition()", tree.errorPosition(), 0);
        DUE.is("new: clearText()", tree.clearText(), 0);
        DUE.is("new: sorted(0)", tree.sorted(0), -1);
        DUE.throwsState("new: undo()", tree::undo);
        DUE.throwsState("new: restore(0)", () -> tree.restore(0));
        DUE.throwsState("new: restore(1)", () -> tree.restore(1));
        DUE.is("NONE", LanternTree.NONE, -1);
    }

    private static void append() {
        LanternTree tree = new LanternTree();
        DUE.throwsArgument("append(-1)", () -> tree.append(-1));
        DUE.throwsArgument("append(256)", () -> tree.append(256));
        DUE.is("append(0)", tree.append(0), 1);
        DUE.is("append(255)", tree.append(255), 2);
        for (int length = 3; length <= 100; length++) {
            DUE.is("append('t')", tree.append('t'), length);
        }
        DUE.throwsState("append('t') on 100", () -> tree.append('t'));
        DUE.throwsArgument("append(256) on 100", () -> tree.append(256));
        DUE.is("clearText()", tree.clearText(), 100);
        DUE.is("append('L')", tree.append('L'), 1);
    }

    private static void clearText() {
        LanternTree tree = new LanternTree();
        Due.write(tree, "L2x");
        DUE.is("clearText()", tree.clearText(), 3);
        DUE.is("clearText() again", tree.clearText(), 0);
        Due.write(tree, "L4");
        DUE.is("errorPosition() of the new text", tree.errorPosition(), -1);
        DUE.throwsState("undo(), for a text is no action", tree::undo);
    }

    private static void errorPosition() {
        String[] texts = {"", "l2", "L", "L1", "L7", "L2", "L6", "L2i", "L2i0", "L2i01", "L2i012", "L2i01x", "L2ix12",
            "L2i0123", "L2d", "L2d999", "L2r00", "L2r000", "L2t", "L2tttt", "L2s", "L2s0", "L2s3", "L2s4", "L2s0s",
            "L2 t", "L2t ", "22", "LL", "L2L2", "L3i001d001tr001s0", "L3i001d001tr001s0z", "L3T", "L3i0:1", "L3i/01",
            "L3s/", "L:", "L2i1t", "x"};
        int[] due = {0, 0, 1, 1, 1, -1, -1, 3, 4, 5, -1, 5, 3,
            6, 3, -1, 5, -1, -1, -1, 3, -1, -1, 3, 5,
            2, 3, 0, 1, 2, -1, 17, 2, 4, 3,
            3, 1, 4, 0};
        for (int i = 0; i < texts.length; i++) {
            LanternTree tree = new LanternTree();
            Due.write(tree, texts[i]);
            DUE.is("errorPosition() of " + texts[i], tree.errorPosition(), due[i]);
            DUE.is("clearText() behind it", tree.clearText(), texts[i].length());
        }
        LanternTree tree = new LanternTree();
        Due.write(tree, "L2i012d345s0");
        tree.clearText();
        Due.write(tree, "L2i");
        DUE.is("errorPosition() of a text behind a longer one", tree.errorPosition(), 3);
        Due.write(tree, "0120");
        DUE.is("errorPosition() of a digit too much", tree.errorPosition(), 6);
        tree.clearText();
        Due.write(tree, "L");
        DUE.is("errorPosition() of L behind a longer one", tree.errorPosition(), 1);
        tree.clearText();
        DUE.is("errorPosition() of nothing behind a longer one", tree.errorPosition(), 0);
        Due.write(tree, "L2" + "t".repeat(98));
        DUE.is("errorPosition() of 100 characters", tree.errorPosition(), -1);
        tree.clearText();
        Due.write(tree, "L2" + "t".repeat(97) + "i");
        DUE.is("errorPosition() of a text that has no room to go on", tree.errorPosition(), 100);
    }

    private static void loadOfNoGarden() {
        LanternTree tree = new LanternTree();
        tree.insert(5);
        tree.save(0);
        DUE.throwsState("load() of no text", tree::load);
        Due.write(tree, "L5i01");
        DUE.throwsState("load() of L5i01", tree::load);
        DUE.is("about(0) behind it", tree.about(0), 3);
        DUE.is("about(1) behind it", tree.about(1), 1);
        DUE.is("undo() behind it", tree.undo(), 0);
        DUE.is("restore(0) behind it", tree.restore(0), 1);
        DUE.is("clearText() behind it", tree.clearText(), 5);
    }

    private static void loadReplaces() {
        LanternTree tree = new LanternTree();
        for (int key = 0; key < 6; key++) {
            tree.insert(key);
        }
        tree.tend();
        tree.addReader(7);
        tree.save(0);
        tree.save(1);
        Due.write(tree, "L5i017");
        DUE.is("load()", tree.load(), 0);
        int[] about = {5, 1, 1, 0, 0, 0, 1, 0, 0, 0, 0};
        for (int what = 0; what < about.length; what++) {
            DUE.is("loaded: about(" + what + ")", tree.about(what), about[what]);
        }
        DUE.is("loaded: node(0, 2)", tree.node(0, 2), -1);
        DUE.is("loaded: node(0, 3)", tree.node(0, 3), -1);
        DUE.is("loaded: keyAt(0, 0)", tree.keyAt(0, 0), 17);
        DUE.throwsIndex("loaded: node(1, 0)", () -> tree.node(1, 0));
        DUE.throwsState("loaded: undo()", tree::undo);
        DUE.throwsState("loaded: restore(0)", () -> tree.restore(0));
        DUE.throwsState("loaded: restore(1)", () -> tree.restore(1));
        tree.insert(3);
        DUE.is("load() again", tree.load(), 0);
        DUE.is("loaded again: about(1)", tree.about(1), 1);
        DUE.is("the text is kept", tree.clearText(), 6);
    }

    private static void loadLeavesOut() {
        String[] texts = {"L2s0", "L2i001i002i003i004i005", "L2i001i002i003i004i004", "L2d001", "L2t",
            "L2r000r001r002r003r004", "L2r005s0s0", "L2r005s0s1s2", "L2i001r001s0s0s0d001", "L6i999"};
        int[] due = {1, 1, 0, 0, 0, 1, 1, 2, 2, 0};
        for (int i = 0; i < texts.length; i++) {
            LanternTree tree = new LanternTree();
            Due.write(tree, texts[i]);
            DUE.is("load() of " + texts[i], tree.load(), due[i]);
        }
        LanternTree tree = Due.garden("L3i001i002i003i004d002tr003s0");
        int[] about = {3, 3, 1, 0, 0, 0, 1, 0, 0, 0, 1};
        for (int what = 0; what < about.length; what++) {
            DUE.is("commands: about(" + what + ")", tree.about(what), about[what]);
        }
        DUE.is("commands: reader(0, 1)", tree.reader(0, 1), 3);
        DUE.is("commands: reader(0, 2)", tree.reader(0, 2), 1);
    }
}
