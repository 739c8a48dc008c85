/** Promises 16, 17 and 24: the gardeners, nights, and how much there is to do. */
public final class NightTest {
    private static final Due DUE = new Due();

    public static void main(String[] args) {
        splitLeaf();
        splitOrder();
        mergeLimits();
        mergeIsPutOff();
        mergeNeedsOneParent();
        mergeOfTheLeftmost();
        leaveRoot();
        sixtyNodes();
        lastRoot();
        night();
        nightLimits();
        work();
        DUE.end();
    }

    private static void leaf(String told, LanternTree tree, int n, int... keys) {
        for (int i = 0; i < keys.length; i++) {
            DUE.is(told + ": keyAt(" + n + ", " + i + ")", tree.keyAt(n, i), keys[i]);
        }
        DUE.is(told + ": node(" + n + ", 1)", tree.node(n, 1), keys.length);
    }

    private static void splitLeaf() {
        DUE.is("tend() of an empty tree", new LanternTree().tend(), -1);
        LanternTree tree = Due.garden("L3i001i002i003");
        DUE.is("tend() with M keys", tree.tend(), -1);
        tree.insert(4);
        tree.insert(5);
        DUE.is("tend() with more", tree.tend(), 100);
        leaf("split", tree, 0, 1, 2);
        leaf("split", tree, 1, 3, 4, 5);
        DUE.is("bound", tree.node(0, 2), 3);
        DUE.is("link", tree.node(0, 3), 1);
        DUE.is("bound of the new node", tree.node(1, 2), -1);
        DUE.is("the new root", tree.about(4), 2);
        DUE.is("its key", tree.keyAt(2, 0), 3);
        tree.insert(0);
        tree.insert(6);
        DUE.is("tend() of the right leaf", tree.tend(), 101);
        leaf("split again", tree, 1, 3, 4);
        leaf("split again", tree, 3, 5, 6);
        leaf("split again", tree, 2, 3, 5);
        DUE.is("about(8)", tree.about(8), 2);
    }

    private static void splitOrder() {
        LanternTree tree = Due.garden("L2i010i020i030i040ti005i001i050i060");
        DUE.is("the leftmost first", tree.tend(), 100);
        DUE.is("then the other", tree.tend(), 101);
        DUE.is("the root has 3 keys", tree.node(2, 1), 3);
        tree.insert(70);
        DUE.is("a leaf before the root", tree.tend(), 104);
        DUE.is("the root then", tree.tend(), 102);
        DUE.is("nothing then", tree.tend(), -1);
        LanternTree both = Due.garden("L2i010i020i030i040td010d020i050");
        DUE.is("a split before a merge", both.tend(), 101);
        DUE.is("a merge then", both.tend(), 200);
    }

    /** Whether the gardeners merge two leaves with so many keys, in a tree of this order. */
    private static int merging(int order, int left, int right) {
        LanternTree tree = Due.garden("L" + order);
        for (int i = 0; i <= order; i++) {
            tree.insert(100 + i);
        }
        tree.tend();
        for (int i = 0; i <= order; i++) {
            tree.remove(100 + i);
        }
        for (int i = 0; i < left; i++) {
            tree.insert(i);
        }
        for (int i = 0; i < right; i++) {
            tree.insert(200 + i);
        }
        DUE.is("keys on the left", tree.node(0, 1), left);
        DUE.is("keys on the right", tree.node(1, 1), right);
        return tree.tend();
    }

    private static void mergeLimits() {
        for (int order = 2; order <= 6; order++) {
            for (int left = 0; left <= order; left++) {
                for (int right = 0; right <= order; right++) {
                    boolean few = left < order / 2 || right < order / 2;
                    int due = left + right <= order && few ? 200 : -1;
                    DUE.is("M " + order + ": " + left + " and " + right, merging(order, left, right), due);
                }
            }
        }
        LanternTree tree = Due.garden("L4i001i002i003i004i005td001d003");
        DUE.is("tend() merges", tree.tend(), 200);
        leaf("merged", tree, 0, 2, 4, 5);
        DUE.is("merged: bound", tree.node(0, 2), -1);
        DUE.is("merged: link", tree.node(0, 3), -1);
        DUE.is("merged: node(1, 4)", tree.node(1, 4), 1);
        DUE.is("merged: keys of the parent", tree.node(2, 1), 0);
        DUE.is("about(9)", tree.about(9), 1);
    }

    private static void mergeIsPutOff() {
        LanternTree tree = Due.garden("L2i010i020i030tr010r020s0s0s1s1d010");
        DUE.is("one that has found stands on the left", tree.reader(0, 2), 1);
        DUE.is("one that has found stands on the right", tree.reader(1, 2), 1);
        DUE.is("put off for both", tree.tend(), -1);
        tree.send(0, 99);
        DUE.is("put off for the right", tree.tend(), -1);
        tree.send(1, 10);
        tree.step(1);
        DUE.is("put off for one on the left that walks", tree.tend(), -1);
        tree.step(1);
        DUE.is("put off for one that has not found", tree.tend(), -1);
        tree.send(1, 10);
        DUE.is("nobody stands there", tree.tend(), 200);
    }

    private static void mergeNeedsOneParent() {
        LanternTree tree = Due.garden("L2i000i001i002ti003ti004tt");
        DUE.is("leaf 1 is the last of its parent", tree.child(2, 1), 1);
        DUE.is("leaf 3 is the next", tree.node(1, 3), 3);
        tree.remove(1);
        tree.remove(2);
        tree.addReader(0);
        tree.step(0);
        tree.step(0);
        tree.addReader(4);
        tree.step(1);
        tree.step(1);
        DUE.is("both are empty, but of two parents", tree.tend(), -1);
        tree.send(1, 0);
        DUE.is("leaf 3 with the next", tree.tend(), 203);
        leaf("merged", tree, 3, 3, 4);
        tree.send(0, 0);
        DUE.is("leaf 0 with the next", tree.tend(), 200);
        DUE.is("a node without keys stays", tree.node(2, 1), 0);
        DUE.is("a root with two children is not left", tree.tend(), -1);
        DUE.is("find(3) through nodes without keys", tree.find(3), 2003);
    }

    private static void mergeOfTheLeftmost() {
        LanternTree tree = Due.garden("L2i000i001i002ti003ti004td000d002");
        DUE.is("the root is split first", tree.tend(), 102);
        DUE.is("the leftmost pair", tree.tend(), 200);
        leaf("merged", tree, 0, 1);
        DUE.is("its bound", tree.node(0, 2), 2);
        DUE.is("its link", tree.node(0, 3), 3);
        DUE.is("the next pair", tree.tend(), 203);
    }

    private static void leaveRoot() {
        LanternTree tree = Due.garden("L2i010i020i030td010");
        DUE.is("merge", tree.tend(), 200);
        DUE.is("the root was left", tree.tend(), 300);
        DUE.is("about(4)", tree.about(4), 0);
        DUE.is("about(3)", tree.about(3), 2);
        DUE.is("nothing more", tree.tend(), -1);
        DUE.is("find(30)", tree.find(30), 0);
        DUE.is("a root that is a leaf is not left", Due.garden("L2").tend(), -1);
    }

    private static void sixtyNodes() {
        LanternTree tree = Due.garden("L2i000i001i002t");
        for (int key = 3; key < 59; key++) {
            tree.insert(key);
            DUE.is("tend() splits the last leaf", tree.tend(), key == 3 ? 101 : 100 + key - 1);
        }
        DUE.is("about(2)", tree.about(2), 59);
        DUE.is("keys of the root", tree.node(2, 1), 57);
        DUE.is("keyAt(2, 56)", tree.keyAt(2, 56), 57);
        DUE.is("child(2, 57)", tree.child(2, 57), 58);
        DUE.is("the root would need two nodes", tree.tend(), -1);
        DUE.is("it is too full", tree.about(7), 1);
        tree.remove(7);
        DUE.is("what comes behind is done", tree.tend(), 207);
        tree.insert(59);
        DUE.is("the sixtieth node", tree.tend(), 158);
        DUE.is("about(2)", tree.about(2), 60);
        tree.insert(60);
        DUE.is("a leaf is too full", tree.about(7), 2);
        DUE.is("no node is left", tree.tend(), -1);
        DUE.is("node(59, 0)", tree.node(59, 0), 0);
        DUE.throwsIndex("node(60, 0)", () -> tree.node(60, 0));
        tree.insert(61);
        DUE.throwsState("the leaf is full", () -> tree.insert(62));
        DUE.is("work()", tree.work(), 0);
    }

    private static void lastRoot() {
        LanternTree tree = Due.garden("L2i000i001i002t");
        for (int key = 3; key < 58; key++) {
            tree.insert(key);
            tree.tend();
        }
        DUE.is("58 nodes", tree.about(2), 58);
        DUE.is("keys of the root", tree.node(2, 1), 56);
        DUE.is("the root is split into the last two", tree.tend(), 102);
        DUE.is("60 nodes", tree.about(2), 60);
        DUE.is("the new root", tree.about(4), 59);
        DUE.is("node(2, 1)", tree.node(2, 1), 28);
        DUE.is("node(2, 2)", tree.node(2, 2), 29);
        DUE.is("node(2, 3)", tree.node(2, 3), 58);
        DUE.is("keyAt(2, 27)", tree.keyAt(2, 27), 28);
        DUE.is("keyAt(2, 28)", tree.keyAt(2, 28), -1);
        DUE.is("child(2, 28)", tree.child(2, 28), 29);
        DUE.is("child(2, 29)", tree.child(2, 29), -1);
        DUE.is("node(58, 1)", tree.node(58, 1), 27);
        DUE.is("keyAt(58, 0)", tree.keyAt(58, 0), 30);
        DUE.is("keyAt(58, 26)", tree.keyAt(58, 26), 56);
        DUE.is("child(58, 0)", tree.child(58, 0), 30);
        DUE.is("child(58, 27)", tree.child(58, 27), 57);
        DUE.is("keyAt(59, 0)", tree.keyAt(59, 0), 29);
        DUE.is("nothing is left", tree.tend(), -1);
    }

    private static void night() {
        LanternTree tree = Due.garden("L2i010i020i030r030");
        DUE.is("night(1): tend, then a step to the right", tree.night(1), 0);
        DUE.is("about(8)", tree.about(8), 1);
        DUE.is("reader(0, 0)", tree.reader(0, 0), 1);
        DUE.is("night(1): it finds", tree.night(1), 1);
        DUE.is("night(1): it has found", tree.night(1), 1);
        DUE.is("reader(0, 3)", tree.reader(0, 3), 1);
        tree.undo();
        tree.undo();
        tree.undo();
        DUE.is("about(8) behind undo()", tree.about(8), 0);
        DUE.is("night(2)", tree.night(2), 1);
        tree.addReader(25);
        tree.addReader(20);
        tree.addReader(10);
        DUE.is("night(1) with four", tree.night(1), 1);
        DUE.is("night(1) with four, three find", tree.night(1), 3);
        DUE.is("reader(1, 2)", tree.reader(1, 2), 2);
        LanternTree lost = Due.garden("L2i010i020i030tr030d010td020i040d030");
        DUE.is("night(1): the root is left, its reader is lost", lost.night(1), 0);
        DUE.is("reader(0, 4)", lost.reader(0, 4), 1);
        DUE.is("night(1) of a reader without luck", lost.night(1), 0);
        DUE.is("reader(0, 2)", lost.reader(0, 2), 2);
    }

    private static void nightLimits() {
        LanternTree tree = Due.garden("L2i010i020i030r010");
        int[] wrong = {0, -1, 41, Integer.MIN_VALUE, Integer.MAX_VALUE};
        for (int n : wrong) {
            DUE.throwsArgument("night(" + n + ")", () -> tree.night(n));
        }
        DUE.throwsState("undo(), for nothing was done", tree::undo);
        DUE.is("night(40)", tree.night(40), 1);
        DUE.is("undo()", tree.undo(), 0);
        DUE.is("night(1)", tree.night(1), 1);
        LanternTree dry = Due.garden("L2i010i020i030i040tr040");
        for (int i = 0; i < 10; i++) {
            dry.step(0);
            dry.send(0, 40);
        }
        DUE.is("night(40) without oil", dry.night(40), 0);
        DUE.is("reader(0, 2)", dry.reader(0, 2), 3);
        dry.pour(0, 10);
        DUE.is("night(1) with oil", dry.night(1), 0);
        DUE.is("reader(0, 0)", dry.reader(0, 0), 1);
        DUE.is("night(1) with oil, it finds", dry.night(1), 1);
    }

    private static void work() {
        DUE.is("work() of an empty tree", new LanternTree().work(), 0);
        LanternTree tree = Due.garden("L2i000i001i002ti003ti004t");
        DUE.is("work() with the root to split", tree.work(), 1);
        tree.remove(0);
        tree.remove(1);
        tree.remove(2);
        tree.remove(3);
        tree.remove(4);
        DUE.is("work() with splits and merges", tree.work(), 3);
        DUE.is("it changes nothing", tree.about(8) * 100 + tree.about(2), 305);
        int jobs = 0;
        while (tree.tend() != -1) {
            jobs++;
        }
        DUE.is("as many tend()", jobs, 3);
        LanternTree put = Due.garden("L2i010i020i030tr010s0d010");
        DUE.is("work() with a reader who stands there", put.work(), 0);
        put.send(0, 10);
        DUE.is("work() without", put.work(), 2);
    }
}
