/** Writes out what an object tells of itself, so that a test can compare whole lines. */
final class Look {
    private static final String[] MOODS = {"walks", "found", "not found", "out of oil"};
    private static final int MANY = 100;

    private Look() {
    }

    static String keys(LanternTree tree, int n) {
        StringBuilder told = new StringBuilder();
        for (int i = 0; i < MANY && tree.keyAt(n, i) != LanternTree.NONE; i++) {
            told.append(i == 0 ? "" : " ").append(tree.keyAt(n, i));
        }
        return told.toString();
    }

    static String children(LanternTree tree, int n) {
        StringBuilder told = new StringBuilder();
        for (int i = 0; i < MANY && tree.child(n, i) != LanternTree.NONE; i++) {
            told.append(i == 0 ? "" : " ").append(tree.child(n, i));
        }
        return told.toString();
    }

    static String sorted(LanternTree tree) {
        StringBuilder told = new StringBuilder();
        for (int i = 0; i < MANY && tree.sorted(i) != LanternTree.NONE; i++) {
            told.append(i == 0 ? "" : " ").append(tree.sorted(i));
        }
        return told.toString();
    }

    /** Such as "leaf [10 20] bound 30 link 1", or "level 1 [30] over [0 1] gone". */
    static String node(LanternTree tree, int n) {
        StringBuilder told = new StringBuilder();
        told.append(tree.node(n, 0) == 0 ? "leaf" : "level " + tree.node(n, 0));
        told.append(" [").append(keys(tree, n)).append(']');
        String children = children(tree, n);
        told.append(children.isEmpty() ? "" : " over [" + children + "]");
        if (tree.node(n, 2) != LanternTree.NONE || tree.node(n, 3) != LanternTree.NONE) {
            told.append(" bound ").append(tree.node(n, 2)).append(" link ").append(tree.node(n, 3));
        }
        return told.append(tree.node(n, 4) == 0 ? "" : " gone").toString();
    }

    /** Such as "on 2 for 40 walks, 0 steps, 0 times lost, oil 4000". */
    static String reader(LanternTree tree, int r) {
        return "on " + tree.reader(r, 0) + " for " + tree.reader(r, 1) + " " + MOODS[tree.reader(r, 2)] + ", "
            + tree.reader(r, 3) + " steps, " + tree.reader(r, 4) + " times lost, oil " + tree.reader(r, 5);
    }

    /** All that can be asked without changing the object. */
    static String all(LanternTree tree) {
        StringBuilder told = new StringBuilder("about");
        for (int what = 0; what <= 10; what++) {
            told.append(' ').append(tree.about(what));
        }
        for (int n = 0; n < tree.about(2); n++) {
            told.append("\n").append(n).append(": ").append(node(tree, n)).append(", ").append(tree.node(n, 5));
        }
        for (int r = 0; r < tree.about(10); r++) {
            told.append("\nreader ").append(reader(tree, r));
        }
        return told.append("\n").append(sorted(tree)).append(' ').append(tree.errorPosition()).toString();
    }
}
