/** Promises 6 to 13: what is told of the tree and of its readers. */
public final class TreeTest {
    private static final Due DUE = new Due();

    // Leaf 0 (10), leaf 1 (20), leaf 3 (30 40) below the root 2 (20 30); a reader of 40 on leaf 0.
    private static final String THREE_LEAVES = "L2i010i020i030r040ti040t";

    // Of the leaves 0, 1, 3 only leaf 0 (30 40) is left; reader 0 stands on the old root 2.
    private static final String LEFT_ROOT = "L2i010i020i030tr030d010td020i040d030";

    public static void main(String[] args) {
        about();
        node();
        goneNodes();
        keyAtAndChild();
        innerSplit();
        find();
        sorted();
        fullness();
        reader();
        DUE.end();
    }

    private static void about() {
        LanternTree tree = Due.garden(THREE_LEAVES + "i050");
        int[] about = {2, 5, 4, 0, 2, 1, 3, 1, 2, 0, 1};
        for (int what = 0; what < about.length; what++) {
            DUE.is("about(" + what + ")", tree.about(what), about[what]);
        }
        LanternTree merged = Due.garden(LEFT_ROOT);
        int[] aboutMerged = {2, 1, 3, 1, 2, 1, 1, 0, 1, 1, 1};
        for (int what = 0; what < aboutMerged.length; what++) {
            DUE.is("merged: about(" + what + ")", merged.about(what), aboutMerged[what]);
        }
        DUE.is("merged: tend()", merged.tend(), 300);
        int[] aboutLeft = {2, 1, 3, 2, 0, 0, 1, 0, 1, 1, 1};
        for (int what = 0; what < aboutLeft.length; what++) {
            DUE.is("left: about(" + what + ")", merged.about(what), aboutLeft[what]);
        }
        int[] wrong = {-1, 11, Integer.MIN_VALUE, Integer.MAX_VALUE};
        for (int what : wrong) {
            DUE.throwsArgument("about(" + what + ")", () -> tree.about(what));
        }
    }

    private static void node() {
        LanternTree tree = Due.garden(THREE_LEAVES);
        int[][] nodes = {{0, 1, 20, 1, 0, 1}, {0, 1, 30, 3, 0, 0}, {1, 2, -1, -1, 0, 0}, {0, 2, -1, -1, 0, 0}};
        for (int n = 0; n < nodes.length; n++) {
            for (int what = 0; what < 6; what++) {
                DUE.is("node(" + n + ", " + what + ")", tree.node(n, what), nodes[n][what]);
            }
        }
        int[] noNodes = {-1, 4, 60, Integer.MIN_VALUE, Integer.MAX_VALUE};
        for (int n : noNodes) {
            DUE.throwsIndex("node(" + n + ", 0)", () -> tree.node(n, 0));
            DUE.throwsIndex("node(" + n + ", 6)", () -> tree.node(n, 6));
            DUE.throwsIndex("keyAt(" + n + ", -1)", () -> tree.keyAt(n, -1));
            DUE.throwsIndex("child(" + n + ", -1)", () -> tree.child(n, -1));
        }
        DUE.throwsArgument("node(0, 6)", () -> tree.node(0, 6));
        DUE.throwsArgument("node(0, -1)", () -> tree.node(0, -1));
    }

    private static void goneNodes() {
        LanternTree tree = Due.garden(THREE_LEAVES);
        DUE.is("send(0, 10)", tree.send(0, 10), 40);
        DUE.is("remove(10)", tree.remove(10), 0);
        DUE.is("tend() merges", tree.tend(), 200);
        int[] gone = {0, 1, 30, 3, 1, 0};
        for (int what = 0; what < 6; what++) {
            DUE.is("gone: node(1, " + what + ")", tree.node(1, what), gone[what]);
        }
        DUE.is("gone: keyAt(1, 0)", tree.keyAt(1, 0), 20);
        DUE.is("gone: keyAt(1, 1)", tree.keyAt(1, 1), -1);
        DUE.is("insert(25)", tree.insert(25), 0);
        DUE.is("remove(20)", tree.remove(20), 0);
        DUE.is("gone still: node(1, 1)", tree.node(1, 1), 1);
        DUE.is("gone still: keyAt(1, 0)", tree.keyAt(1, 0), 20);
        DUE.is("merged: keyAt(0, 0)", tree.keyAt(0, 0), 25);
        DUE.is("merged: node(0, 2)", tree.node(0, 2), 30);
        DUE.is("merged: node(0, 3)", tree.node(0, 3), 3);
        DUE.is("merged: node(2, 1)", tree.node(2, 1), 1);
        DUE.is("merged: keyAt(2, 0)", tree.keyAt(2, 0), 30);
        DUE.is("merged: child(2, 1)", tree.child(2, 1), 3);
        DUE.is("merged: child(2, 2)", tree.child(2, 2), -1);

        LanternTree left = Due.garden(LEFT_ROOT);
        left.send(0, 7);
        DUE.is("left: tend()", left.tend(), 300);
        int[] oldRoot = {1, 0, -1, -1, 1, 1};
        for (int what = 0; what < 6; what++) {
            DUE.is("left: node(2, " + what + ")", left.node(2, what), oldRoot[what]);
        }
        DUE.is("left: keyAt(2, 0)", left.keyAt(2, 0), -1);
        DUE.is("left: child(2, 0)", left.child(2, 0), 0);
        DUE.is("left: child(2, 1)", left.child(2, 1), -1);
        for (int key = 100; key < 103; key++) {
            left.insert(key);
        }
        DUE.is("left: tend() splits the new root", left.tend(), 100);
        DUE.is("left: about(4)", left.about(4), 4);
        DUE.is("left still: child(2, 0)", left.child(2, 0), 0);
        DUE.is("left still: child(2, 1)", left.child(2, 1), -1);
    }

    private static void keyAtAndChild() {
        LanternTree tree = Due.garden(THREE_LEAVES);
        int[][] keys = {{10, -1, -1}, {20, -1, -1}, {20, 30, -1}, {30, 40, -1}};
        int[][] children = {{-1, -1, -1, -1}, {-1, -1, -1, -1}, {0, 1, 3, -1}, {-1, -1, -1, -1}};
        for (int n = 0; n < 4; n++) {
            for (int i = 0; i < 3; i++) {
                DUE.is("keyAt(" + n + ", " + i + ")", tree.keyAt(n, i), keys[n][i]);
            }
            for (int i = 0; i < 4; i++) {
                DUE.is("child(" + n + ", " + i + ")", tree.child(n, i), children[n][i]);
            }
            int node = n;
            DUE.throwsArgument("keyAt(" + n + ", -1)", () -> tree.keyAt(node, -1));
            DUE.throwsArgument("child(" + n + ", -1)", () -> tree.child(node, -1));
            DUE.is("keyAt(" + n + ", 2147483647)", tree.keyAt(n, Integer.MAX_VALUE), -1);
            DUE.is("child(" + n + ", 2147483647)", tree.child(n, Integer.MAX_VALUE), -1);
        }
        DUE.is("remove(20)", tree.remove(20), 1);
        DUE.is("an inner node keeps the key", tree.keyAt(2, 0), 20);
    }

    private static void innerSplit() {
        // The root 2 has the keys 1 2 3 and the children 0 1 3 4 before it is split.
        LanternTree tree = Due.garden("L2i000i001i002ti003ti004t");
        DUE.is("tend() splits the root", tree.tend(), 102);
        int[][] nodes = {{2, 1, 1, 2, 5, 0}, {5, 1, 1, -1, -1, 0}, {6, 2, 1, -1, -1, 0}};
        for (int[] n : nodes) {
            DUE.is("level of " + n[0], tree.node(n[0], 0), n[1]);
            DUE.is("keys of " + n[0], tree.node(n[0], 1), n[2]);
            DUE.is("bound of " + n[0], tree.node(n[0], 2), n[3]);
            DUE.is("link of " + n[0], tree.node(n[0], 3), n[4]);
        }
        DUE.is("keyAt(2, 0)", tree.keyAt(2, 0), 1);
        DUE.is("keyAt(5, 0)", tree.keyAt(5, 0), 3);
        DUE.is("keyAt(6, 0)", tree.keyAt(6, 0), 2);
        int[][] children = {{2, 0, 0}, {2, 1, 1}, {2, 2, -1}, {5, 0, 3}, {5, 1, 4}, {5, 2, -1}, {6, 0, 2}, {6, 1, 5}};
        for (int[] c : children) {
            DUE.is("child(" + c[0] + ", " + c[1] + ")", tree.child(c[0], c[1]), c[2]);
        }
        DUE.is("about(4)", tree.about(4), 6);
        DUE.is("about(5)", tree.about(5), 2);
    }

    private static void find() {
        LanternTree tree = Due.garden(THREE_LEAVES);
        int[][] due = {{10, 1000}, {20, 1001}, {30, 1003}, {40, 1003}, {0, 1999}, {19, 1999}, {999, 1999}};
        for (int[] d : due) {
            DUE.is("find(" + d[0] + ")", tree.find(d[0]), d[1]);
        }
        DUE.is("find(5) in an empty tree", new LanternTree().find(5), 999);
        LanternTree deep = Due.garden("L2i000i001i002ti003ti004tt");
        DUE.is("find(4) from level 2", deep.find(4), 2004);
        DUE.is("find(5) from level 2", deep.find(5), 2999);
        int[] wrong = {-1, 1000, Integer.MIN_VALUE, Integer.MAX_VALUE};
        for (int key : wrong) {
            DUE.throwsArgument("find(" + key + ")", () -> tree.find(key));
        }
    }

    private static void sorted() {
        LanternTree tree = Due.garden("L2i040i030i020i010tti025i005d030");
        int[] due = {5, 10, 20, 25, 40, -1, -1};
        for (int i = 0; i < due.length; i++) {
            DUE.is("sorted(" + i + ")", tree.sorted(i), due[i]);
        }
        DUE.is("sorted(2147483647)", tree.sorted(Integer.MAX_VALUE), -1);
        DUE.throwsArgument("sorted(-1)", () -> tree.sorted(-1));
        DUE.throwsArgument("sorted(-2147483648)", () -> tree.sorted(Integer.MIN_VALUE));
    }

    private static void fullness() {
        DUE.isFloat("fullness() of an empty tree", new LanternTree().fullness(), 0.0f);
        DUE.isFloat("fullness() of 4 / 6", Due.garden(THREE_LEAVES).fullness(), 4.0f / 6.0f);
        DUE.isFloat("fullness() of 6 / 3", Due.garden("L3i001i002i003i004i005i006").fullness(), 2.0f);
        DUE.isFloat("fullness() without a gone leaf", Due.garden(LEFT_ROOT).fullness(), 0.5f);
        DUE.isFloat("fullness() of 1 / 6", Due.garden("L6i001").fullness(), 1.0f / 6.0f);
    }

    private static void reader() {
        LanternTree tree = Due.garden("L2i010i020i030i040r025r040ttr999s1s2");
        int[][] due = {{0, 25, 0, 0, 0, 4000}, {1, 40, 0, 1, 0, 3750}, {1, 999, 0, 1, 0, 3625}};
        for (int r = 0; r < due.length; r++) {
            for (int what = 0; what < 6; what++) {
                DUE.is("reader(" + r + ", " + what + ")", tree.reader(r, what), due[r][what]);
            }
        }
        int[] noReaders = {-1, 3, 4, Integer.MIN_VALUE, Integer.MAX_VALUE};
        for (int r : noReaders) {
            DUE.throwsIndex("reader(" + r + ", 0)", () -> tree.reader(r, 0));
            DUE.throwsIndex("reader(" + r + ", 6)", () -> tree.reader(r, 6));
        }
        DUE.throwsArgument("reader(0, 6)", () -> tree.reader(0, 6));
        DUE.throwsArgument("reader(0, -1)", () -> tree.reader(0, -1));
        tree.pour(0, 1);
        DUE.is("reader(0, 5) behind pour(0, 1)", tree.reader(0, 5), (int) ((4.0f + 1.0f / 10.0f) * 1000.0f));
    }
}
