/** Promises 14, 15 and 18 to 22: what is done to keys and readers, and undo. */
public final class ActionTest {
    private static final Due DUE = new Due();
    private static final int[] NO_KEYS = {-1, 1000, Integer.MIN_VALUE, Integer.MAX_VALUE};

    // Leaf 0 (10 20) and leaf 1 (30 40) below the root 2 (30).
    private static final String TWO_LEAVES = "L2i010i020i030i040t";

    public static void main(String[] args) {
        insert();
        insertIntoFullLeaf();
        remove();
        addReader();
        send();
        stepToTheKey();
        stepToTheRight();
        stepOfTheLost();
        stepWithoutOil();
        pour();
        undoEachAction();
        undoForgets();
        DUE.end();
    }

    private static void insert() {
        LanternTree tree = Due.garden(TWO_LEAVES);
        DUE.is("insert(25)", tree.insert(25), 0);
        DUE.is("insert(25) again", tree.insert(25), -1);
        DUE.is("insert(30) again", tree.insert(30), -1);
        DUE.is("insert(0)", tree.insert(0), 0);
        DUE.is("insert(999)", tree.insert(999), 1);
        int[] keys = {0, 10, 20, 25, 30, 40, 999};
        for (int i = 0; i < keys.length; i++) {
            DUE.is("sorted(" + i + ")", tree.sorted(i), keys[i]);
        }
        DUE.is("about(1)", tree.about(1), 7);
        tree.remove(30);
        DUE.is("insert(30) where the root's key leads", tree.insert(30), 1);
        for (int key : NO_KEYS) {
            DUE.throwsArgument("insert(" + key + ")", () -> tree.insert(key));
        }
    }

    private static void insertIntoFullLeaf() {
        for (int order = 2; order <= 6; order++) {
            LanternTree tree = Due.garden("L" + order);
            for (int i = 0; i < 2 * order; i++) {
                DUE.is("order " + order + ": insert " + i, tree.insert(500 - i), 0);
            }
            DUE.throwsState("order " + order + ": one more", () -> tree.insert(7));
            DUE.is("order " + order + ": one that it has", tree.insert(500), -1);
            DUE.throwsArgument("order " + order + ": insert(1000)", () -> tree.insert(1000));
            DUE.is("order " + order + ": about(1)", tree.about(1), 2 * order);
            DUE.is("order " + order + ": undo()", tree.undo(), Math.min(14, 2 * order + 1) - 1);
        }
    }

    private static void remove() {
        LanternTree tree = Due.garden(TWO_LEAVES);
        DUE.is("remove(11)", tree.remove(11), -1);
        DUE.is("remove(10)", tree.remove(10), 0);
        DUE.is("remove(10) again", tree.remove(10), -1);
        DUE.is("remove(40)", tree.remove(40), 1);
        DUE.is("remove(30)", tree.remove(30), 1);
        DUE.is("remove(30), that only the root keeps", tree.remove(30), -1);
        DUE.is("sorted(0)", tree.sorted(0), 20);
        DUE.is("sorted(1)", tree.sorted(1), -1);
        DUE.is("about(1)", tree.about(1), 1);
        for (int key : NO_KEYS) {
            DUE.throwsArgument("remove(" + key + ")", () -> tree.remove(key));
        }
        LanternTree middle = Due.garden("L3i001i002i003i004d002");
        int[] left = {1, 3, 4, -1};
        for (int i = 0; i < left.length; i++) {
            DUE.is("keyAt(0, " + i + ")", middle.keyAt(0, i), left[i]);
        }
    }

    private static void addReader() {
        LanternTree tree = Due.garden(TWO_LEAVES);
        for (int r = 0; r < 4; r++) {
            DUE.is("addReader", tree.addReader(333 * r), r);
            int[] due = {2, 333 * r, 0, 0, 0, 4000};
            for (int what = 0; what < 6; what++) {
                DUE.is("reader(" + r + ", " + what + ")", tree.reader(r, what), due[what]);
            }
        }
        DUE.is("node(2, 5)", tree.node(2, 5), 4);
        DUE.throwsState("addReader(1), the fifth", () -> tree.addReader(1));
        for (int key : NO_KEYS) {
            DUE.throwsArgument("addReader(" + key + ")", () -> tree.addReader(key));
        }
        DUE.is("about(10)", tree.about(10), 4);
        tree.undo();
        DUE.is("about(10) behind undo()", tree.about(10), 3);
        DUE.is("addReader(5) again", tree.addReader(5), 3);
        DUE.is("reader(3, 1)", tree.reader(3, 1), 5);
    }

    private static void send() {
        LanternTree tree = Due.garden("L2i010i020i030tr030d010td020i040d030t");
        DUE.is("the old root is left", tree.reader(0, 0), 2);
        tree.step(0);
        DUE.is("it was lost", tree.reader(0, 4), 1);
        DUE.is("send(0, 5)", tree.send(0, 5), 30);
        DUE.is("it was not lost since", tree.reader(0, 4), 0);

        LanternTree two = Due.garden(TWO_LEAVES + "r040s0s0");
        DUE.is("it has found 40", two.reader(0, 2), 1);
        DUE.is("send(0, 10)", two.send(0, 10), 40);
        int[] due = {2, 10, 0, 0, 0, 3625};
        for (int what = 0; what < 6; what++) {
            DUE.is("sent: reader(0, " + what + ")", two.reader(0, what), due[what]);
        }
        DUE.is("send(0, 0)", two.send(0, 0), 10);
        DUE.is("send(0, 999)", two.send(0, 999), 0);
        DUE.throwsIndex("send(1, 5)", () -> two.send(1, 5));
        DUE.throwsIndex("send(-1, 1000)", () -> two.send(-1, 1000));
        for (int key : NO_KEYS) {
            DUE.throwsArgument("send(0, " + key + ")", () -> two.send(0, key));
        }
    }

    private static void stepToTheKey() {
        LanternTree tree = Due.garden(TWO_LEAVES + "r030r029");
        DUE.is("step(0) goes down", tree.step(0), 1);
        DUE.is("it burned 0.375", tree.reader(0, 5), 3625);
        DUE.is("it walks", tree.reader(0, 2), 0);
        DUE.is("step(0) finds", tree.step(0), 1);
        DUE.is("it burned nothing", tree.reader(0, 5), 3625);
        DUE.is("it has found", tree.reader(0, 2), 1);
        DUE.is("its steps", tree.reader(0, 3), 1);
        DUE.is("step(1) goes down", tree.step(1), 0);
        DUE.is("step(1) does not find", tree.step(1), 0);
        DUE.is("it has not found", tree.reader(1, 2), 2);
        DUE.throwsState("step(0) when it has found", () -> tree.step(0));
        DUE.throwsState("step(1) when it has not found", () -> tree.step(1));
        int[] noReaders = {2, -1, 4, Integer.MAX_VALUE, Integer.MIN_VALUE};
        for (int r : noReaders) {
            DUE.throwsIndex("step(" + r + ")", () -> tree.step(r));
        }
        tree.insert(29);
        DUE.is("a key that comes later is not found", tree.reader(1, 2), 2);
    }

    private static void stepToTheRight() {
        LanternTree tree = Due.garden("L2i010i020i030i040r030t");
        DUE.is("it stands on the first root", tree.reader(0, 0), 0);
        DUE.is("step(0) to the right, the bound being its key", tree.step(0), 1);
        DUE.is("it burned 0.25", tree.reader(0, 5), 3750);
        DUE.is("its steps", tree.reader(0, 3), 1);
        DUE.is("step(0) finds", tree.step(0), 1);
        DUE.is("it has found", tree.reader(0, 2), 1);

        LanternTree inner = Due.garden("L2i000i001i002ti003ti004tr004r000t");
        DUE.is("level 1 to the right", inner.step(0), 5);
        DUE.is("level 1 burns 0.375", inner.reader(0, 5), 3625);
        DUE.is("level 1 down on the left", inner.step(1), 0);
        inner.send(0, 4);
        DUE.is("level 2 down", inner.step(0), 5);
        DUE.is("level 2 burns 0.5", inner.reader(0, 5), 3125);
    }

    private static void stepOfTheLost() {
        LanternTree tree = Due.garden("L2i010i020i030tr040d010td020i040d030t");
        DUE.is("it stands on the old root", tree.reader(0, 0), 2);
        DUE.is("node(2, 4)", tree.node(2, 4), 1);
        DUE.is("step(0), lost", tree.step(0), 0);
        int[] due = {0, 40, 0, 0, 1, 4000};
        for (int what = 0; what < 6; what++) {
            DUE.is("lost: reader(0, " + what + ")", tree.reader(0, what), due[what]);
        }
        DUE.is("step(0), found", tree.step(0), 0);
        DUE.is("it has found", tree.reader(0, 2), 1);

        LanternTree dry = Due.garden("L2i010i020i030tr040");
        for (int i = 0; i < 10; i++) {
            dry.step(0);
            dry.send(0, 40);
        }
        dry.step(0);
        DUE.is("it is out of oil on the root", dry.reader(0, 2), 3);
        dry.remove(10);
        dry.remove(20);
        DUE.is("merge", dry.tend(), 200);
        DUE.is("the root is left", dry.tend(), 300);
        DUE.is("it is out of oil still", dry.reader(0, 2), 3);
        DUE.is("walk(0)", dry.walk(0), 2);
        DUE.is("step(0), lost without oil", dry.step(0), 0);
        DUE.is("it walks", dry.reader(0, 2), 0);
        DUE.is("it was lost", dry.reader(0, 4), 1);
        DUE.is("step(0), not found", dry.step(0), 0);
        DUE.is("it has not found", dry.reader(0, 2), 2);
    }

    private static void stepWithoutOil() {
        LanternTree tree = Due.garden(TWO_LEAVES + "r040");
        for (int i = 0; i < 10; i++) {
            DUE.is("step(0)", tree.step(0), 1);
            tree.send(0, i < 9 ? 40 : 25);
        }
        DUE.is("0.25 of the oil is left", tree.reader(0, 5), 250);
        tree.save(0);
        DUE.is("step(0) without oil", tree.step(0), 2);
        int[] due = {2, 25, 3, 0, 0, 250};
        for (int what = 0; what < 6; what++) {
            DUE.is("out of oil: reader(0, " + what + ")", tree.reader(0, what), due[what]);
        }
        DUE.is("step(0) is allowed still", tree.step(0), 2);
        tree.pour(0, 1);
        DUE.is("oil alone lets nobody walk", tree.reader(0, 2), 3);
        DUE.is("step(0) with 0.35", tree.step(0), 2);
        tree.pour(0, 1);
        DUE.is("step(0) with 0.45", tree.step(0), 0);
        DUE.is("it walks", tree.reader(0, 2), 0);
        DUE.is("its steps", tree.reader(0, 3), 1);
        lastDropOfOil();
    }

    private static void lastDropOfOil() {
        LanternTree tree = Due.garden(TWO_LEAVES + "r020");
        for (int i = 0; i < 10; i++) {
            DUE.is("step(0)", tree.step(0), 0);
            if (i < 9) {
                tree.send(0, 25);
            }
        }
        tree.insert(22);
        tree.insert(25);
        DUE.is("tend() splits the leaf", tree.tend(), 100);
        DUE.is("step(0) with just enough", tree.step(0), 3);
        DUE.is("no oil is left", tree.reader(0, 5), 0);
        DUE.is("it walks", tree.reader(0, 2), 0);
        DUE.is("step(0) that costs nothing", tree.step(0), 3);
        DUE.is("it has found", tree.reader(0, 2), 1);
    }

    private static void pour() {
        LanternTree tree = Due.garden("L2r001");
        DUE.is("pour(0, 1)", tree.pour(0, 1), (int) ((4.0f + 1.0f / 10.0f) * 1000.0f));
        tree.undo();
        DUE.is("pour(0, 7)", tree.pour(0, 7), (int) ((4.0f + 7.0f / 10.0f) * 1000.0f));
        tree.undo();
        DUE.is("pour(0, 99)", tree.pour(0, 99), 13900);
        DUE.is("pour(0, 20)", tree.pour(0, 20), 15900);
        DUE.is("pour(0, 1) to the brim", tree.pour(0, 1), 16000);
        DUE.is("pour(0, 99) over the brim", tree.pour(0, 99), 16000);
        DUE.is("reader(0, 5)", tree.reader(0, 5), 16000);
        int[] wrong = {0, -1, 100, Integer.MIN_VALUE, Integer.MAX_VALUE};
        for (int tenths : wrong) {
            DUE.throwsArgument("pour(0, " + tenths + ")", () -> tree.pour(0, tenths));
            DUE.throwsIndex("pour(1, " + tenths + ")", () -> tree.pour(1, tenths));
        }
        DUE.throwsIndex("pour(-1, 1)", () -> tree.pour(-1, 1));
        tree.step(0);
        DUE.is("it has not found", tree.reader(0, 2), 2);
        DUE.is("pour(0, 1) for one that walks no more", tree.pour(0, 1), 16000);
    }

    private static void undoEachAction() {
        LanternTree tree = Due.garden("L2i010i020i030r030");
        tree.insert(40);
        tree.remove(10);
        tree.tend();
        tree.addReader(7);
        tree.step(0);
        tree.pour(1, 50);
        tree.send(0, 5);
        tree.night(2);
        tree.remove(555);
        tree.insert(40);
        int[] left = {9, 8, 7, 6, 5, 4, 3, 2, 1, 0};
        int[] what = {1, 1, 2, 1, 5, 0, 10, 2, 1, 1};
        int[] due = {3, 3, 0, 30, 4000, 0, 1, 1, 4, 3};
        for (int i = 0; i < left.length; i++) {
            DUE.is("undo() " + i, tree.undo(), left[i]);
            boolean ofReader = i >= 2 && i <= 5;
            int got = !ofReader ? tree.about(what[i]) : tree.reader(i == 4 ? 1 : 0, what[i]);
            DUE.is("what it took back " + i, got, due[i]);
        }
        DUE.throwsState("undo() of nothing", tree::undo);
        DUE.is("about(8)", tree.about(8), 0);
        DUE.is("sorted(0)", tree.sorted(0), 10);
    }

    private static void undoForgets() {
        LanternTree tree = Due.garden("L6");
        for (int key = 0; key < 12; key++) {
            tree.insert(key);
        }
        for (int i = 0; i < 8; i++) {
            tree.remove(i);
        }
        DUE.throwsState("undo of a call that throws", () -> {
            LanternTree other = new LanternTree();
            try {
                other.insert(-1);
            } catch (IllegalArgumentException e) {
                DUE.is("nothing is inserted", other.about(1), 0);
            }
            return other.undo();
        });
        for (int left = 13; left >= 0; left--) {
            DUE.is("undo()", tree.undo(), left);
        }
        DUE.is("about(1) of the oldest state", tree.about(1), 6);
        DUE.throwsState("undo() of what is forgotten", tree::undo);
        tree.insert(500);
        DUE.is("undo() behind it", tree.undo(), 0);
        DUE.is("about(1)", tree.about(1), 6);
    }
}
