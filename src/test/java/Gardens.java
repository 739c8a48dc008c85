/** Gardens that many tests begin with. */
final class Gardens {
    /** Leaf 0 (10 20) and leaf 1 (30 40) below the root 2 (30). */
    static final String TWO_LEAVES = "L2i010i020i030i040t";

    /** Leaf 0 (10), leaf 1 (20) and leaf 3 (30 40) below the root 2 (20 30). */
    static final String THREE_LEAVES = "L2i010i020i030ti040t";

    /** The leaves 0 (0), 1 (1), 3 (2), 4 (3 4), two each below 2 (1) and 5 (3), and those below the root 6 (2). */
    static final String THREE_LEVELS = "L2i000i001i002ti003ti004tt";

    /** Leaf 0 (20 30) is the root again; leaf 1 and the old root 2, on which reader 0 of 30 stands, are gone. */
    static final String ROOT_LEFT = "L2i010i020i030tr030d010tt";

    private Gardens() {
    }

    /** Of order 2, with so many nodes (3 to 60), all but node 2 leaves below it; they have the keys 0, 1, 2 and so on. */
    static LanternTree ofNodes(int nodes) {
        LanternTree tree = Due.garden("L2i000i001i002t");
        for (int key = 3; key < nodes; key++) {
            tree.insert(key);
            tree.tend();
        }
        return tree;
    }

    /** Of two leaves, leaf 0 with so many keys from 0 on, and leaf 1 with so many from 200 on. */
    static LanternTree ofTwo(int order, int left, int right) {
        LanternTree tree = Due.garden("L" + order);
        for (int i = 0; i <= order; i++) {
            tree.insert(100 + i);
        }
        tree.tend();
        for (int i = 0; i <= order; i++) {
            tree.remove(100 + i);
        }
        for (int i = 0; i < left; i++) {
            tree.insert(i);
        }
        for (int i = 0; i < right; i++) {
            tree.insert(200 + i);
        }
        return tree;
    }

    /** TWO_LEAVES with a reader on the root that looks for this key and has only 0.25f of its oil left. */
    static LanternTree withADryReader(int key) {
        LanternTree tree = Due.garden(TWO_LEAVES + "r040");
        for (int i = 0; i < 10; i++) {
            tree.step(0);
            tree.send(0, key);
        }
        return tree;
    }

    /** A reader that looks for 25 has only 0.25f of its oil left, and leaf 0, on which it stands, was split at 22. */
    static LanternTree withADryReaderOnALeaf() {
        LanternTree tree = Due.garden(TWO_LEAVES + "r025");
        for (int i = 0; i < 10; i++) {
            tree.send(0, 25);
            tree.step(0);
        }
        tree.insert(22);
        tree.insert(25);
        tree.tend();
        return tree;
    }

    /** THREE_LEVELS with a reader on leaf 0 that looks for 0 and has only 0.5f of its oil left. */
    static LanternTree withADryReaderBelow() {
        LanternTree tree = Due.garden(THREE_LEVELS + "r000s0s0");
        for (int i = 0; i < 3; i++) {
            tree.send(0, 0);
            tree.step(0);
            tree.step(0);
        }
        return tree;
    }
}
