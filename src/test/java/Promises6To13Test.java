/** Each sentence of the promises 6 to 13: what is told of the tree and of its readers. */
public final class Promises6To13Test {
    private static final String P6 = "Promise 6: about";
    private static final String P7 = "Promise 7: node";
    private static final String P8 = "Promise 8: keyAt";
    private static final String P9 = "Promise 9: child";
    private static final String P10 = "Promise 10: find";
    private static final String P11 = "Promise 11: sorted";
    private static final String P12 = "Promise 12: fullness";
    private static final String P13 = "Promise 13: reader";
    private static final String WHICH = "`i`: which one, from 0";
    private static final String NO_NODE = "Throws `IndexOutOfBoundsException` if there is no such node";
    private static final String NEGATIVE = "Throws `IllegalArgumentException` if i is negative";

    private static final int[] BELOW_0 = {-1, Integer.MIN_VALUE};

    public static void main(String[] args) {
        Sentences.test(Promises6To13Test.class, args);
    }

    /** about(what) of a new object, of a tree of three levels, and of one whose root was left. */
    private static void about(Due due, int what, int fresh, int high, int left) {
        due.is("about(" + what + ") of a new object", new LanternTree().about(what), fresh);
        due.is("about(" + what + ") of three levels", Due.garden(Gardens.THREE_LEVELS + "i005").about(what), high);
        due.is("about(" + what + ") with the root left", Due.garden(Gardens.ROOT_LEFT).about(what), left);
    }

    @Sentence(of = P6, says = "Returns a number.")
    static void aboutChangesNothing(Due due) {
        LanternTree tree = Due.garden(Gardens.ROOT_LEFT);
        String before = Look.all(tree);
        for (int what = 0; what <= 10; what++) {
            tree.about(what);
        }
        due.text("the state", Look.all(tree), before);
    }

    @Sentence(of = P6, says = "`what`: 0: the order;")
    static void aboutTheOrder(Due due) {
        about(due, 0, 3, 2, 2);
        due.is("about(0)", Due.garden("L6").about(0), 6);
    }

    @Sentence(of = P6, says = "1: the number of keys;")
    static void aboutTheKeys(Due due) {
        about(due, 1, 0, 6, 2);
        due.is("about(1) of a full leaf", Due.garden("L6i001i002i003i004i005i006i007i008i009i010i011i012").about(1), 12);
    }

    @Sentence(of = P6, says = "2: of nodes that were made;")
    static void aboutNodesMade(Due due) {
        about(due, 2, 1, 7, 3);
        due.is("about(2) of the most nodes", Gardens.ofNodes(60).about(2), 60);
    }

    @Sentence(of = P6, says = "3: of those that are gone;")
    static void aboutNodesGone(Due due) {
        about(due, 3, 0, 0, 2);
        due.is("about(3) with the root not yet left", Due.garden("L2i010i020i030td010t").about(3), 1);
    }

    @Sentence(of = P6, says = "4: the root;")
    static void aboutTheRoot(Due due) {
        about(due, 4, 0, 6, 0);
    }

    @Sentence(of = P6, says = "5: the level of the root;")
    static void aboutTheLevelOfTheRoot(Due due) {
        about(due, 5, 0, 2, 0);
    }

    @Sentence(of = P6, says = "6: the number of leaves that are not gone;")
    static void aboutLeaves(Due due) {
        about(due, 6, 1, 4, 1);
        due.is("about(6) behind one merge", Due.garden(Gardens.THREE_LEAVES + "d010t").about(6), 2);
    }

    @Sentence(of = P6, says = "7: of nodes that are too full;")
    static void aboutNodesTooFull(Due due) {
        about(due, 7, 0, 1, 0);
        due.is("about(7) of a leaf and the root", Due.garden("L2i000i001i002ti003ti004ti005").about(7), 2);
    }

    @Sentence(of = P6, says = "8: of splits so far;")
    static void aboutSplits(Due due) {
        about(due, 8, 0, 4, 1);
        LanternTree tree = Due.garden("L2i010i020i030");
        tree.tend();
        tree.undo();
        due.is("about(8) behind undo()", tree.about(8), 0);
    }

    @Sentence(of = P6, says = "9: of merges so far;")
    static void aboutMerges(Due due) {
        about(due, 9, 0, 0, 1);
        due.is("about(9) with the root not yet left", Due.garden("L2i010i020i030td010t").about(9), 1);
    }

    @Sentence(of = P6, says = "10: of readers")
    static void aboutReaders(Due due) {
        about(due, 10, 0, 0, 1);
        due.is("about(10) of four", Due.garden("L2r001r001r001r001").about(10), 4);
    }

    @Sentence(of = P6, says = "Throws `IllegalArgumentException` if what is not 0 to 10")
    static void aboutSomethingElse(Due due) {
        LanternTree tree = new LanternTree();
        int[] wrong = {-1, 11, Integer.MIN_VALUE, Integer.MAX_VALUE};
        for (int what : wrong) {
            due.throwsArgument("about(" + what + ")", () -> tree.about(what));
        }
    }

    @Sentence(of = P6, says = "Returns that number.")
    static void aboutBothEnds(Due due) {
        LanternTree tree = Due.garden("L4r001");
        due.is("about(0)", tree.about(0), 4);
        due.is("about(10)", tree.about(10), 1);
    }

    @Sentence(of = P7, says = "Returns a number of a node.")
    static void numbersOfEachNode(Due due) {
        LanternTree tree = Due.garden(Gardens.THREE_LEAVES + "r999");
        int[][] nodes = {{0, 1, 20, 1, 0, 0}, {0, 1, 30, 3, 0, 0}, {1, 2, -1, -1, 0, 1}, {0, 2, -1, -1, 0, 0}};
        for (int n = 0; n < nodes.length; n++) {
            for (int what = 0; what <= 5; what++) {
                due.is("node(" + n + ", " + what + ")", tree.node(n, what), nodes[n][what]);
            }
        }
    }

    @Sentence(of = P7, says = "`n`: node")
    static void firstAndLastNode(Due due) {
        LanternTree tree = Gardens.ofNodes(60);
        due.is("node(0, 3)", tree.node(0, 3), 1);
        due.is("node(58, 3)", tree.node(58, 3), 59);
        due.is("node(59, 3)", tree.node(59, 3), -1);
    }

    @Sentence(of = P7, says = "`what`: 0: its level;")
    static void levelOfANode(Due due) {
        LanternTree tree = Due.garden(Gardens.THREE_LEVELS);
        due.is("node(0, 0)", tree.node(0, 0), 0);
        due.is("node(2, 0)", tree.node(2, 0), 1);
        due.is("node(6, 0)", tree.node(6, 0), 2);
    }

    @Sentence(of = P7, says = "1: the number of its keys;")
    static void numberOfKeysOfANode(Due due) {
        due.is("none", new LanternTree().node(0, 1), 0);
        due.is("as many as can be", Due.garden("L2i001i002i003i004").node(0, 1), 4);
        due.is("of the root", Gardens.ofNodes(59).node(2, 1), 57);
    }

    @Sentence(of = P7, says = "2: its bound, NONE without one;")
    static void boundOfANode(Due due) {
        LanternTree tree = Due.garden(Gardens.TWO_LEAVES);
        due.is("node(0, 2)", tree.node(0, 2), 30);
        due.is("node(1, 2)", tree.node(1, 2), -1);
        due.is("node(2, 2)", tree.node(2, 2), -1);
    }

    @Sentence(of = P7, says = "3: its link, NONE without one;")
    static void linkOfANode(Due due) {
        LanternTree tree = Due.garden(Gardens.TWO_LEAVES);
        due.is("node(0, 3)", tree.node(0, 3), 1);
        due.is("node(1, 3)", tree.node(1, 3), -1);
        due.is("node(2, 3)", tree.node(2, 3), -1);
    }

    @Sentence(of = P7, says = "4: 1 if it is gone, otherwise 0;")
    static void goneOrNot(Due due) {
        LanternTree tree = Due.garden(Gardens.ROOT_LEFT);
        int[] gone = {0, 1, 1};
        for (int n = 0; n < gone.length; n++) {
            due.is("node(" + n + ", 4)", tree.node(n, 4), gone[n]);
        }
    }

    @Sentence(of = P7, says = "5: the number of readers that stand on it (of whatever kind)")
    static void readersOfEachKindOnANode(Due due) {
        LanternTree tree = Due.garden(Gardens.TWO_LEAVES + "r010r010r011r010s0s1s1s2s2");
        due.is("one that walks, one that has found, one that has not", tree.node(0, 5), 3);
        due.is("one that walks on the root", tree.node(2, 5), 1);
        due.is("none", tree.node(1, 5), 0);
        LanternTree dry = Gardens.withADryReader(40);
        dry.step(0);
        due.is("one that is out of oil", dry.node(2, 5), 1);
        due.is("four", Due.garden("L2r001r001r001r001").node(0, 5), 4);
    }

    @Sentence(of = P7, says = "5: the number of readers that stand on it (of whatever kind)")
    static void readersOnANodeThatIsGone(Due due) {
        LanternTree tree = Due.garden(Gardens.ROOT_LEFT);
        due.is("node(2, 5)", tree.node(2, 5), 1);
        tree.step(0);
        due.is("node(2, 5) then", tree.node(2, 5), 0);
        due.is("node(0, 5) then", tree.node(0, 5), 1);
    }

    @Sentence(of = P7, says = "Returns that number; for 1 to 3 of one that is gone as when it went.")
    static void goneLeafAsWhenItWent(Due due) {
        LanternTree tree = Due.garden(Gardens.THREE_LEAVES + "d010td020i025");
        int[] gone = {0, 1, 30, 3, 1, 0};
        for (int what = 0; what <= 5; what++) {
            due.is("node(1, " + what + ")", tree.node(1, what), gone[what]);
        }
        tree.insert(50);
        due.is("tend() splits leaf 3", tree.tend(), 103);
        due.is("node(1, 3) still", tree.node(1, 3), 3);
    }

    @Sentence(of = P7, says = "Returns that number; for 1 to 3 of one that is gone as when it went.")
    static void goneRootAsWhenItWent(Due due) {
        LanternTree tree = Due.garden(Gardens.ROOT_LEFT + "i040t");
        int[] gone = {1, 0, -1, -1, 1, 1};
        for (int what = 0; what <= 5; what++) {
            due.is("node(2, " + what + ")", tree.node(2, what), gone[what]);
        }
    }

    @Sentence(of = P7, says = NO_NODE)
    static void numberOfNoNode(Due due) {
        LanternTree tree = Due.garden(Gardens.TWO_LEAVES);
        int[] none = {-1, 3, 60, Integer.MIN_VALUE, Integer.MAX_VALUE};
        for (int n : none) {
            due.throwsIndex("node(" + n + ", 0)", () -> tree.node(n, 0));
        }
        tree.clearText();
        Due.write(tree, "L2");
        tree.load();
        due.throwsIndex("node(1, 0) of a smaller tree", () -> tree.node(1, 0));
    }

    @Sentence(of = P7, says = "Throws `IllegalArgumentException` if what is not 0 to 5")
    static void anotherNumberOfANode(Due due) {
        LanternTree tree = Due.garden(Gardens.ROOT_LEFT);
        int[] wrong = {-1, 6, Integer.MIN_VALUE, Integer.MAX_VALUE};
        for (int what : wrong) {
            due.throwsArgument("node(0, " + what + ")", () -> tree.node(0, what));
            due.throwsArgument("node(2, " + what + ")", () -> tree.node(2, what));
        }
    }

    @Sentence(of = P8, says = "Returns a key of a node (of one that is gone as when it went).")
    static void keysOfANode(Due due) {
        LanternTree tree = Due.garden(Gardens.THREE_LEAVES);
        String[] keys = {"10", "20", "20 30", "30 40"};
        for (int n = 0; n < keys.length; n++) {
            due.text("keys of " + n, Look.keys(tree, n), keys[n]);
        }
    }

    @Sentence(of = P8, says = "Returns a key of a node (of one that is gone as when it went).")
    static void keysOfAGoneNode(Due due) {
        LanternTree tree = Gardens.ofTwo(6, 2, 4);
        tree.tend();
        tree.remove(200);
        tree.insert(300);
        due.text("keys of leaf 0", Look.keys(tree, 0), "0 1 201 202 203 300");
        due.text("keys of leaf 1, that is gone", Look.keys(tree, 1), "200 201 202 203");
        LanternTree left = Due.garden(Gardens.ROOT_LEFT + "i040t");
        due.is("keyAt(2, 0) of a root that was left", left.keyAt(2, 0), -1);
    }

    @Sentence(of = P8, says = "`n`: node")
    static void keysOfTheFirstAndTheLastNode(Due due) {
        LanternTree tree = Gardens.ofNodes(60);
        due.is("keyAt(0, 0)", tree.keyAt(0, 0), 0);
        due.is("keyAt(59, 1)", tree.keyAt(59, 1), 59);
    }

    @Sentence(of = P8, says = WHICH)
    static void firstKeyAndLastKey(Due due) {
        LanternTree tree = Gardens.ofNodes(59);
        due.is("keyAt(2, 0)", tree.keyAt(2, 0), 1);
        due.is("keyAt(2, 56)", tree.keyAt(2, 56), 57);
        due.is("keyAt(2, 57)", tree.keyAt(2, 57), -1);
    }

    @Sentence(of = P8, says = "Returns the key; NONE if there are not so many.")
    static void notSoManyKeys(Due due) {
        LanternTree tree = Due.garden(Gardens.TWO_LEAVES);
        int[] many = {2, 3, 11, 12, 13, 59, 60, Integer.MAX_VALUE};
        for (int i : many) {
            due.is("keyAt(0, " + i + ")", tree.keyAt(0, i), -1);
            due.is("keyAt(1, " + i + ")", tree.keyAt(1, i), -1);
            due.is("keyAt(2, " + i + ")", tree.keyAt(2, i), -1);
        }
        due.is("keyAt(2, 1)", tree.keyAt(2, 1), -1);
        due.is("keyAt(0, 0) of no keys", new LanternTree().keyAt(0, 0), -1);
    }

    @Sentence(of = P8, says = "Returns the key; NONE if there are not so many.")
    static void removedKeysAreNotTold(Due due) {
        LanternTree tree = Due.garden(Gardens.TWO_LEAVES + "d010d020");
        due.is("keyAt(0, 0)", tree.keyAt(0, 0), -1);
        due.is("keyAt(0, 1)", tree.keyAt(0, 1), -1);
    }

    @Sentence(of = P8, says = NO_NODE)
    static void keyOfNoNode(Due due) {
        LanternTree tree = Due.garden(Gardens.TWO_LEAVES);
        int[] none = {-1, 3, 60, Integer.MIN_VALUE, Integer.MAX_VALUE};
        for (int n : none) {
            due.throwsIndex("keyAt(" + n + ", 0)", () -> tree.keyAt(n, 0));
        }
    }

    @Sentence(of = P8, says = NEGATIVE)
    static void negativeKey(Due due) {
        LanternTree tree = Due.garden(Gardens.ROOT_LEFT);
        for (int i : BELOW_0) {
            due.throwsArgument("keyAt(0, " + i + ")", () -> tree.keyAt(0, i));
            due.throwsArgument("keyAt(2, " + i + ")", () -> tree.keyAt(2, i));
        }
    }

    @Sentence(of = P9, says = "Returns a child of a node (of one that is gone as when it went).")
    static void childrenOfANode(Due due) {
        LanternTree tree = Due.garden(Gardens.THREE_LEVELS);
        due.text("children of 6", Look.children(tree, 6), "2 5");
        due.text("children of 2", Look.children(tree, 2), "0 1");
        due.text("children of 5", Look.children(tree, 5), "3 4");
    }

    @Sentence(of = P9, says = "Returns a child of a node (of one that is gone as when it went).")
    static void childOfAGoneRoot(Due due) {
        LanternTree tree = Due.garden(Gardens.ROOT_LEFT + "i040t");
        due.text("children of 2, that was left", Look.children(tree, 2), "0");
        due.text("children of 4", Look.children(tree, 4), "0 3");
    }

    @Sentence(of = P9, says = "`n`: node")
    static void childrenOfTheLastNode(Due due) {
        LanternTree tree = Gardens.ofNodes(58);
        tree.tend();
        due.is("child(59, 0)", tree.child(59, 0), 2);
        due.is("child(59, 1)", tree.child(59, 1), 58);
    }

    @Sentence(of = P9, says = WHICH)
    static void firstChildAndLastChild(Due due) {
        LanternTree tree = Gardens.ofNodes(59);
        due.is("child(2, 0)", tree.child(2, 0), 0);
        due.is("child(2, 57)", tree.child(2, 57), 58);
        due.is("child(2, 58)", tree.child(2, 58), -1);
    }

    @Sentence(of = P9, says = "Returns the child; NONE if there are not so many (also of a leaf).")
    static void notSoManyChildren(Due due) {
        LanternTree tree = Due.garden(Gardens.TWO_LEAVES);
        int[] many = {2, 3, 59, 60, Integer.MAX_VALUE};
        for (int i : many) {
            due.is("child(2, " + i + ")", tree.child(2, i), -1);
        }
    }

    @Sentence(of = P9, says = "Returns the child; NONE if there are not so many (also of a leaf).")
    static void childOfALeaf(Due due) {
        LanternTree tree = Due.garden(Gardens.ROOT_LEFT);
        for (int n = 0; n < 2; n++) {
            due.is("child(" + n + ", 0)", tree.child(n, 0), -1);
            due.is("child(" + n + ", 1)", tree.child(n, 1), -1);
        }
        due.is("child(0, 0) of a new object", new LanternTree().child(0, 0), -1);
    }

    @Sentence(of = P9, says = NO_NODE)
    static void childOfNoNode(Due due) {
        LanternTree tree = Due.garden(Gardens.TWO_LEAVES);
        int[] none = {-1, 3, 60, Integer.MIN_VALUE, Integer.MAX_VALUE};
        for (int n : none) {
            due.throwsIndex("child(" + n + ", 0)", () -> tree.child(n, 0));
        }
    }

    @Sentence(of = P9, says = NEGATIVE)
    static void negativeChild(Due due) {
        LanternTree tree = Due.garden(Gardens.ROOT_LEFT);
        for (int i : BELOW_0) {
            due.throwsArgument("child(0, " + i + ")", () -> tree.child(0, i));
            due.throwsArgument("child(2, " + i + ")", () -> tree.child(2, i));
        }
    }

    @Sentence(of = P10, says = "Looks for a key from the root.")
    static void findFromTheRoot(Due due) {
        LanternTree tree = Due.garden(Gardens.THREE_LEVELS);
        String before = Look.all(tree);
        due.is("find(3)", tree.find(3), 2004);
        due.text("the state", Look.all(tree), before);
    }

    @Sentence(of = P10, says = "`key`: 0 to 999")
    static void findTheLeastAndTheGreatestKey(Due due) {
        LanternTree tree = Due.garden("L2i000i500i999t");
        due.is("find(0)", tree.find(0), 1000);
        due.is("find(999)", tree.find(999), 1001);
    }

    @Sentence(of = P10, says = "Returns 1000 * (the steps by which the leaf is come to, to the right or to a child) + (the leaf, if it has the key, or else 999).")
    static void stepsToALeaf(Due due) {
        due.is("none", Due.garden("L2i010").find(10), 0);
        due.is("one", Due.garden(Gardens.TWO_LEAVES).find(40), 1001);
        due.is("two", Due.garden(Gardens.THREE_LEVELS).find(4), 2004);
        due.is("the last leaf", Gardens.ofNodes(60).find(59), 1059);
    }

    @Sentence(of = P10, says = "Returns 1000 * (the steps by which the leaf is come to, to the right or to a child) + (the leaf, if it has the key, or else 999).")
    static void keyThatIsNotThere(Due due) {
        due.is("find(0) of a new object", new LanternTree().find(0), 999);
        due.is("find(25)", Due.garden(Gardens.TWO_LEAVES).find(25), 1999);
        due.is("find(20), that a gone leaf has", Due.garden(Gardens.ROOT_LEFT + "d020").find(20), 999);
        due.is("find(2), that inner nodes have", Due.garden(Gardens.THREE_LEVELS + "d002").find(2), 2999);
    }

    @Sentence(of = P10, says = "Throws `IllegalArgumentException` if key is out of range")
    static void findNoKey(Due due) {
        LanternTree tree = Due.garden(Gardens.TWO_LEAVES);
        int[] wrong = {-1, 1000, Integer.MIN_VALUE, Integer.MAX_VALUE};
        for (int key : wrong) {
            due.throwsArgument("find(" + key + ")", () -> tree.find(key));
        }
    }

    @Sentence(of = P11, says = "Returns a key of the tree.")
    static void keysOfTheTree(Due due) {
        due.text("sorted", Look.sorted(Due.garden(Gardens.THREE_LEVELS)), "0 1 2 3 4");
        due.text("without keys of gone leaves", Look.sorted(Due.garden(Gardens.ROOT_LEFT)), "20 30");
        due.text("without keys of inner nodes alone", Look.sorted(Due.garden(Gardens.TWO_LEAVES + "d030")), "10 20 40");
    }

    @Sentence(of = P11, says = "`i`: which one, from 0, ascending")
    static void ascending(Due due) {
        LanternTree tree = Due.garden("L2i999i000i500i250ti750t");
        due.text("sorted", Look.sorted(tree), "0 250 500 750 999");
        due.is("sorted(0)", tree.sorted(0), 0);
        due.is("sorted(4)", tree.sorted(4), 999);
    }

    @Sentence(of = P11, says = "`i`: which one, from 0, ascending")
    static void overLeavesWithoutKeys(Due due) {
        LanternTree tree = Due.garden(Gardens.THREE_LEAVES + "d020");
        due.is("keys of leaf 1", tree.node(1, 1), 0);
        due.is("sorted(0)", tree.sorted(0), 10);
        due.is("sorted(1)", tree.sorted(1), 30);
    }

    @Sentence(of = P11, says = "Returns the key; NONE if there are not so many.")
    static void notSoManyKeysOfTheTree(Due due) {
        LanternTree tree = Due.garden(Gardens.TWO_LEAVES);
        int[] many = {4, 5, 59, 60, 1000, Integer.MAX_VALUE};
        for (int i : many) {
            due.is("sorted(" + i + ")", tree.sorted(i), -1);
        }
        due.is("sorted(0) of a new object", new LanternTree().sorted(0), -1);
    }

    @Sentence(of = P11, says = NEGATIVE)
    static void negativeKeyOfTheTree(Due due) {
        LanternTree tree = new LanternTree();
        for (int i : BELOW_0) {
            due.throwsArgument("sorted(" + i + ")", () -> tree.sorted(i));
        }
    }

    @Sentence(of = P12, says = "Tells how full the leaves are.")
    static void fullnessOfLeaves(Due due) {
        due.isFloat("no keys", new LanternTree().fullness(), 0.0f);
        due.isFloat("M keys", Due.garden("L3i001i002i003").fullness(), 1.0f);
        due.isFloat("2 * M keys", Due.garden("L3i001i002i003i004i005i006").fullness(), 2.0f);
    }

    @Sentence(of = P12, says = "Returns (the number of keys, as a float) / ((float) (the number of leaves that are not gone * the order)).")
    static void quotientOfFloats(Due due) {
        due.isFloat("1 / 6", Due.garden("L6i001").fullness(), 1.0f / 6.0f);
        due.isFloat("4 / 6", Due.garden(Gardens.THREE_LEAVES).fullness(), 4.0f / 6.0f);
        due.isFloat("60 / 116", Gardens.ofNodes(60).fullness(), 60.0f / (58.0f * 2.0f + 2.0f));
    }

    @Sentence(of = P12, says = "Returns (the number of keys, as a float) / ((float) (the number of leaves that are not gone * the order)).")
    static void goneLeavesAndInnerNodesDoNotCount(Due due) {
        due.isFloat("2 / 2", Due.garden(Gardens.ROOT_LEFT).fullness(), 1.0f);
        due.isFloat("3 / 4", Due.garden(Gardens.THREE_LEAVES + "d010t").fullness(), 3.0f / 4.0f);
        due.isFloat("no keys in two leaves", Gardens.ofTwo(6, 0, 0).fullness(), 0.0f);
    }

    @Sentence(of = P13, says = "Returns a number of a reader.")
    static void numbersOfEachReader(Due due) {
        LanternTree tree = Due.garden("L2i010i020i030i040r025r040ttr999s1s2");
        int[][] readers = {{0, 25, 0, 0, 0, 4000}, {1, 40, 0, 1, 0, 3750}, {1, 999, 0, 1, 0, 3625}};
        for (int r = 0; r < readers.length; r++) {
            for (int what = 0; what <= 5; what++) {
                due.is("reader(" + r + ", " + what + ")", tree.reader(r, what), readers[r][what]);
            }
        }
    }

    @Sentence(of = P13, says = "`r`: reader")
    static void lastReader(Due due) {
        LanternTree tree = Due.garden("L2r000r001r002r003");
        due.is("reader(3, 1)", tree.reader(3, 1), 3);
        due.is("reader(0, 1)", tree.reader(0, 1), 0);
    }

    @Sentence(of = P13, says = "`what`: 0: the node on which it stands;")
    static void nodeOfAReader(Due due) {
        LanternTree tree = Due.garden(Gardens.ROOT_LEFT);
        due.is("a node that is gone", tree.reader(0, 0), 2);
        tree.step(0);
        due.is("the root", tree.reader(0, 0), 0);
    }

    @Sentence(of = P13, says = "1: its key;")
    static void keyOfAReader(Due due) {
        LanternTree tree = Due.garden("L2r000r999");
        due.is("reader(0, 1)", tree.reader(0, 1), 0);
        due.is("reader(1, 1)", tree.reader(1, 1), 999);
        tree.send(0, 998);
        due.is("reader(0, 1) then", tree.reader(0, 1), 998);
    }

    @Sentence(of = P13, says = "2: 0: it walks; 1: it has found its key; 2: it has not found it; 3: it is out of oil;")
    static void moodOfAReader(Due due) {
        LanternTree tree = Due.garden("L2i010r010r010r011s1s2");
        due.is("it walks", tree.reader(0, 2), 0);
        due.is("it has found", tree.reader(1, 2), 1);
        due.is("it has not found", tree.reader(2, 2), 2);
        LanternTree dry = Gardens.withADryReader(40);
        dry.step(0);
        due.is("it is out of oil", dry.reader(0, 2), 3);
    }

    @Sentence(of = P13, says = "3: the steps to the right or to children that it took;")
    static void stepsOfAReader(Due due) {
        LanternTree tree = Due.garden("L2i000i001i002ti003ti004tr004t");
        int[] steps = {1, 2, 2};
        for (int s : steps) {
            tree.step(0);
            due.is("reader(0, 3)", tree.reader(0, 3), s);
        }
        due.is("the last one found", tree.reader(0, 2), 1);
    }

    @Sentence(of = P13, says = "3: the steps to the right or to children that it took;")
    static void otherStepsDoNotCount(Due due) {
        LanternTree lost = Due.garden(Gardens.ROOT_LEFT + "s0");
        due.is("lost", lost.reader(0, 3), 0);
        LanternTree dry = Gardens.withADryReader(40);
        dry.step(0);
        dry.step(0);
        due.is("out of oil", dry.reader(0, 3), 0);
    }

    @Sentence(of = P13, says = "4: how often it was lost;")
    static void howOftenAReaderWasLost(Due due) {
        LanternTree tree = Due.garden(Gardens.ROOT_LEFT);
        due.is("not yet", tree.reader(0, 4), 0);
        tree.step(0);
        due.is("once", tree.reader(0, 4), 1);
        due.is("twice", Due.garden(Gardens.ROOT_LEFT + "i040ts0d020tts0").reader(0, 4), 2);
    }

    @Sentence(of = P13, says = "5: (int) (its oil * 1000.0f)")
    static void oilOfAReader(Due due) {
        LanternTree tree = Due.garden("L2r001");
        float oil = 4.0f;
        for (int tenths = 1; tenths <= 14; tenths++) {
            tree.pour(0, tenths);
            oil = oil + (float) tenths / 10.0f;
            due.is("reader(0, 5)", tree.reader(0, 5), (int) (oil * 1000.0f));
        }
        due.is("no oil", burnedOut().reader(0, 5), 0);
    }

    private static LanternTree burnedOut() {
        LanternTree tree = Gardens.withADryReaderOnALeaf();
        tree.step(0);
        return tree;
    }

    @Sentence(of = P13, says = "Returns that number.")
    static void readingOfAReaderChangesNothing(Due due) {
        LanternTree tree = Due.garden(Gardens.ROOT_LEFT);
        String before = Look.all(tree);
        for (int what = 0; what <= 5; what++) {
            tree.reader(0, what);
        }
        due.text("the state", Look.all(tree), before);
    }

    @Sentence(of = P13, says = "Throws `IndexOutOfBoundsException` if there is no such reader")
    static void numberOfNoReader(Due due) {
        LanternTree tree = Due.garden("L2r001r001r001");
        int[] none = {-1, 3, 4, Integer.MIN_VALUE, Integer.MAX_VALUE};
        for (int r : none) {
            due.throwsIndex("reader(" + r + ", 0)", () -> tree.reader(r, 0));
        }
        due.throwsIndex("reader(0, 0) of a new object", () -> new LanternTree().reader(0, 0));
    }

    @Sentence(of = P13, says = "Throws `IllegalArgumentException` if what is not 0 to 5")
    static void anotherNumberOfAReader(Due due) {
        LanternTree tree = Due.garden("L2r001");
        int[] wrong = {-1, 6, Integer.MIN_VALUE, Integer.MAX_VALUE};
        for (int what : wrong) {
            due.throwsArgument("reader(0, " + what + ")", () -> tree.reader(0, what));
        }
    }
}
