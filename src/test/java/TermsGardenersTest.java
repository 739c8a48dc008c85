/** Each sentence of "THE GARDENERS" in the terms. */
public final class TermsGardenersTest {
    private static final String GARDENERS = "Terms: THE GARDENERS";

    // The leaves 0 (0), 7 (1), 8 (2 3), 1 (100) below 2, and 3 (200), 4 (300), 9 (400), 10 (401 402) below 5;
    // 2 (1 2 100) and 5 (300 400 401) are too full, and below the root 6 (200).
    private static final String TWO_INNER_TOO_FULL = "L2i000i100i200ti300ti400tti001i002ti003i401tti402t";

    public static void main(String[] args) {
        Sentences.test(TermsGardenersTest.class, args);
    }

    @Sentence(of = GARDENERS, says = "The gardeners tend the tree by doing the first of the following that they can, once:")
    static void splitComesAheadOfMerge(Due due) {
        LanternTree tree = Due.garden("L2i010i020i030i040td010d020i050");
        due.is("tend()", tree.tend(), 101);
        due.is("about(8)", tree.about(8), 2);
        due.is("about(9)", tree.about(9), 0);
        due.is("tend() again", tree.tend(), 200);
        due.is("about(9) then", tree.about(9), 1);
    }

    @Sentence(of = GARDENERS, says = "The gardeners tend the tree by doing the first of the following that they can, once:")
    static void splitComesAheadOfLeavingTheRoot(Due due) {
        LanternTree tree = Due.garden("L2i010i020i030td010ti040");
        due.text("the root", Look.node(tree, 2), "level 1 [] over [0]");
        due.is("tend()", tree.tend(), 100);
        due.text("the root then", Look.node(tree, 2), "level 1 [30] over [0 3]");
        due.is("tend() again", tree.tend(), -1);
        due.is("about(4)", tree.about(4), 2);
    }

    @Sentence(of = GARDENERS, says = "The gardeners tend the tree by doing the first of the following that they can, once:")
    static void mergeIfNoSplitIsPossible(Due due) {
        LanternTree tree = Gardens.ofNodes(60);
        tree.insert(60);
        tree.remove(7);
        due.is("about(7)", tree.about(7), 2);
        due.is("tend()", tree.tend(), 207);
        due.is("tend() again", tree.tend(), -1);
    }

    @Sentence(of = GARDENERS, says = "The gardeners tend the tree by doing the first of the following that they can, once:")
    static void oneJobAtATime(Due due) {
        LanternTree tree = Due.garden(Gardens.TWO_LEAVES + "i005i050");
        tree.tend();
        due.is("about(8)", tree.about(8), 2);
        due.is("about(7)", tree.about(7), 1);
    }

    @Sentence(of = GARDENERS, says = "They split a node that is too full")
    static void aNodeThatIsNotTooFull(Due due) {
        due.is("tend() of an empty leaf", new LanternTree().tend(), -1);
        due.is("tend() with M keys", Due.garden("L2i010i020").tend(), -1);
        due.is("tend() with M + 1 keys", Due.garden("L2i010i020i030").tend(), 100);
    }

    @Sentence(of = GARDENERS, says = "of several the one of the lowest level")
    static void leafAheadOfTheRoot(Due due) {
        LanternTree tree = Due.garden("L2i000i001i002ti003ti004ti005");
        due.is("about(7)", tree.about(7), 2);
        due.is("tend()", tree.tend(), 104);
        due.is("tend() again", tree.tend(), 102);
    }

    @Sentence(of = GARDENERS, says = "of several the one of the lowest level")
    static void rightmostLeafAheadOfInnerNodes(Due due) {
        LanternTree tree = Due.garden(TWO_INNER_TOO_FULL + "i403");
        due.is("about(7)", tree.about(7), 3);
        due.is("tend()", tree.tend(), 110);
        due.is("tend() again", tree.tend(), 102);
    }

    @Sentence(of = GARDENERS, says = "then the leftmost")
    static void leftmostLeaf(Due due) {
        LanternTree tree = Due.garden(Gardens.TWO_LEAVES + "i050i005");
        due.is("tend()", tree.tend(), 100);
        due.is("tend() again", tree.tend(), 101);
    }

    @Sentence(of = GARDENERS, says = "then the leftmost")
    static void leftmostLeafWithTheGreaterNumber(Due due) {
        LanternTree tree = Due.garden(Gardens.THREE_LEAVES + "i011i012t");
        due.is("leaf 4 is left of leaf 1", tree.node(4, 3), 1);
        tree.insert(21);
        tree.insert(22);
        tree.insert(13);
        due.is("tend()", tree.tend(), 104);
        due.is("tend() again", tree.tend(), 101);
    }

    @Sentence(of = GARDENERS, says = "then the leftmost")
    static void leftmostInnerNode(Due due) {
        LanternTree tree = Due.garden(TWO_INNER_TOO_FULL);
        due.is("tend()", tree.tend(), 102);
        due.is("tend() again", tree.tend(), 105);
        due.is("tend() then", tree.tend(), 106);
    }

    @Sentence(of = GARDENERS, says = "Of its n keys a leaf keeps the first n / 2 (rounded down)")
    static void keysThatALeafKeeps(Due due) {
        for (int order = 2; order <= 6; order++) {
            for (int n = order + 1; n <= 2 * order; n++) {
                LanternTree tree = Due.garden("L" + order);
                for (int key = 0; key < n; key++) {
                    tree.insert(key);
                }
                due.is("M " + order + ", n " + n + ": tend()", tree.tend(), 100);
                due.is("M " + order + ", n " + n + ": kept", tree.node(0, 1), n / 2);
                due.is("M " + order + ", n " + n + ": the last one", tree.keyAt(0, n / 2 - 1), n / 2 - 1);
                due.is("M " + order + ", n " + n + ": the others", tree.node(1, 1), n - n / 2);
                due.is("M " + order + ", n " + n + ": the first other one", tree.keyAt(1, 0), n / 2);
            }
        }
    }

    @Sentence(of = GARDENERS, says = "the others go to a new node, which has the node's bound and\nlink;")
    static void splitOfALeafWithABound(Due due) {
        LanternTree tree = Due.garden(Gardens.THREE_LEAVES + "i021i022t");
        due.text("the new leaf", Look.node(tree, 4), "leaf [21 22] bound 30 link 3");
    }

    @Sentence(of = GARDENERS, says = "the others go to a new node, which has the node's bound and\nlink;")
    static void splitOfTheLastLeaf(Due due) {
        LanternTree tree = Due.garden(Gardens.TWO_LEAVES + "i050t");
        due.text("the new leaf", Look.node(tree, 3), "leaf [40 50]");
    }

    @Sentence(of = GARDENERS, says = "the node's bound is the first key of the new node then, and its link leads to it.")
    static void boundAndLinkOfASplitLeaf(Due due) {
        LanternTree tree = Due.garden(Gardens.THREE_LEAVES + "i021i022t");
        due.text("the leaf", Look.node(tree, 1), "leaf [20] bound 21 link 4");
        LanternTree last = Due.garden(Gardens.TWO_LEAVES + "i050t");
        due.text("the last leaf", Look.node(last, 1), "leaf [30] bound 40 link 3");
    }

    @Sentence(of = GARDENERS, says = "An inner node keeps the first n / 2 keys and the n / 2 + 1 first children; its key n / 2 becomes its bound, and what is behind that\n   goes to the new node.")
    static void splitOfAnInnerNodeWith3Keys(Due due) {
        LanternTree tree = Due.garden(Gardens.THREE_LEVELS);
        due.text("the node", Look.node(tree, 2), "level 1 [1] over [0 1] bound 2 link 5");
        due.text("the new node", Look.node(tree, 5), "level 1 [3] over [3 4]");
    }

    @Sentence(of = GARDENERS, says = "An inner node keeps the first n / 2 keys and the n / 2 + 1 first children; its key n / 2 becomes its bound, and what is behind that\n   goes to the new node.")
    static void splitOfAnInnerNodeWith4Keys(Due due) {
        LanternTree tree = Due.garden(Gardens.THREE_LEAVES + "i011i012i021i022tt");
        due.text("ahead of it", Look.node(tree, 2), "level 1 [11 20 21 30] over [0 4 1 5 3]");
        due.is("tend()", tree.tend(), 102);
        due.text("the node", Look.node(tree, 2), "level 1 [11 20] over [0 4 1] bound 21 link 6");
        due.text("the new node", Look.node(tree, 6), "level 1 [30] over [5 3]");
    }

    @Sentence(of = GARDENERS, says = "An inner node keeps the first n / 2 keys and the n / 2 + 1 first children; its key n / 2 becomes its bound, and what is behind that\n   goes to the new node.")
    static void splitOfAnInnerNodeWithABound(Due due) {
        LanternTree tree = Due.garden(TWO_INNER_TOO_FULL + "t");
        due.text("the node", Look.node(tree, 2), "level 1 [1] over [0 7] bound 2 link 11");
        due.text("the new node", Look.node(tree, 11), "level 1 [100] over [8 1] bound 200 link 5");
    }

    @Sentence(of = GARDENERS, says = "If the node was the root, a new root is made behind the new node (its child 0 is the node, its key the new bound, its child 1 the new node)")
    static void newRootAboveALeaf(Due due) {
        LanternTree tree = Due.garden("L2i010i020i030i040t");
        due.is("about(4)", tree.about(4), 2);
        due.text("the new root", Look.node(tree, 2), "level 1 [30] over [0 1]");
    }

    @Sentence(of = GARDENERS, says = "If the node was the root, a new root is made behind the new node (its child 0 is the node, its key the new bound, its child 1 the new node)")
    static void newRootAboveInnerNodes(Due due) {
        LanternTree tree = Due.garden(Gardens.THREE_LEVELS);
        due.is("about(4)", tree.about(4), 6);
        due.text("the new root", Look.node(tree, 6), "level 2 [2] over [2 5]");
    }

    @Sentence(of = GARDENERS, says = "otherwise the new bound and the new node come into its parent, behind the node.")
    static void splitOfTheFirstChild(Due due) {
        LanternTree tree = Due.garden(Gardens.THREE_LEAVES + "i011i012t");
        due.text("the parent", Look.node(tree, 2), "level 1 [11 20 30] over [0 4 1 3]");
    }

    @Sentence(of = GARDENERS, says = "otherwise the new bound and the new node come into its parent, behind the node.")
    static void splitOfAMiddleChild(Due due) {
        LanternTree tree = Due.garden(Gardens.THREE_LEAVES + "i021i022t");
        due.text("the parent", Look.node(tree, 2), "level 1 [20 21 30] over [0 1 4 3]");
    }

    @Sentence(of = GARDENERS, says = "otherwise the new bound and the new node come into its parent, behind the node.")
    static void splitOfTheLastChild(Due due) {
        LanternTree tree = Due.garden(Gardens.THREE_LEAVES + "i050t");
        due.text("the parent", Look.node(tree, 2), "level 1 [20 30 40] over [0 1 3 4]");
    }

    @Sentence(of = GARDENERS, says = "otherwise the new bound and the new node come into its parent, behind the node.")
    static void splitOfInnerChildren(Due due) {
        LanternTree tree = Due.garden(TWO_INNER_TOO_FULL + "t");
        due.text("the first child was split", Look.node(tree, 6), "level 2 [2 200] over [2 11 5]");
        tree.tend();
        due.text("the last child was split", Look.node(tree, 6), "level 2 [2 200 400] over [2 11 5 12]");
    }

    @Sentence(of = GARDENERS, says = "It is not possible if there would be more than 60 nodes.")
    static void lastNodeForALeaf(Due due) {
        LanternTree tree = Gardens.ofNodes(59);
        tree.insert(59);
        due.is("tend() with 59 nodes", tree.tend(), 158);
        due.is("about(2)", tree.about(2), 60);
        tree.insert(60);
        due.is("tend() with 60 nodes", tree.tend(), -1);
    }

    @Sentence(of = GARDENERS, says = "It is not possible if there would be more than 60 nodes.")
    static void lastTwoNodesForTheRoot(Due due) {
        LanternTree tree = Gardens.ofNodes(58);
        due.is("about(7)", tree.about(7), 1);
        due.is("tend() with 58 nodes", tree.tend(), 102);
        due.is("about(2)", tree.about(2), 60);
        due.is("about(4)", tree.about(4), 59);
        due.is("tend() with 60 nodes and two nodes too full", tree.tend(), -1);
    }

    @Sentence(of = GARDENERS, says = "It is not possible if there would be more than 60 nodes.")
    static void oneNodeIsTooFewForTheRoot(Due due) {
        LanternTree tree = Gardens.ofNodes(59);
        due.is("about(7)", tree.about(7), 1);
        due.is("tend() with 59 nodes", tree.tend(), -1);
        due.is("about(2)", tree.about(2), 59);
        due.is("about(8)", tree.about(8), 57);
    }

    @Sentence(of = GARDENERS, says = "They merge a leaf with the next one to the right, if both have the same parent,")
    static void leavesOfTwoParents(Due due) {
        LanternTree tree = Due.garden("L4");
        for (int key = 10; key <= 130; key += 10) {
            tree.insert(key);
            tree.tend();
        }
        due.is("the root is split", tree.tend(), 102);
        due.text("the left parent", Look.node(tree, 2), "level 1 [30 50] over [0 1 3] bound 70 link 7");
        due.text("the right parent", Look.node(tree, 7), "level 1 [90 110] over [4 5 6]");
        int[] more = {31, 32, 91, 92};
        for (int key : more) {
            tree.insert(key);
        }
        tree.remove(60);
        tree.remove(80);
        due.is("keys of leaf 3", tree.node(3, 1), 1);
        due.is("keys of leaf 4", tree.node(4, 1), 1);
        due.is("link of leaf 3", tree.node(3, 3), 4);
        due.is("tend()", tree.tend(), -1);
        tree.remove(31);
        due.is("tend() with one of the same parent", tree.tend(), 201);
    }

    @Sentence(of = GARDENERS, says = "together have at most M keys,")
    static void asManyKeysTogetherAsM(Due due) {
        for (int order = 2; order <= 6; order++) {
            due.is("M " + order + ": M keys on the left", Gardens.ofTwo(order, order, 0).tend(), 200);
            due.is("M " + order + ": M keys on the right", Gardens.ofTwo(order, 0, order).tend(), 200);
        }
        due.is("M 4: 1 and 3", Gardens.ofTwo(4, 1, 3).tend(), 200);
        due.is("M 6: 4 and 2", Gardens.ofTwo(6, 4, 2).tend(), 200);
    }

    @Sentence(of = GARDENERS, says = "together have at most M keys,")
    static void oneKeyMoreThanMTogether(Due due) {
        due.is("M 4: 1 and 4", Gardens.ofTwo(4, 1, 4).tend(), -1);
        due.is("M 4: 4 and 1", Gardens.ofTwo(4, 4, 1).tend(), -1);
        due.is("M 5: 1 and 5", Gardens.ofTwo(5, 1, 5).tend(), -1);
        due.is("M 6: 5 and 2", Gardens.ofTwo(6, 5, 2).tend(), -1);
    }

    @Sentence(of = GARDENERS, says = "at least one of them has fewer than M / 2 keys (rounded down),")
    static void fewerThanHalfOfM(Due due) {
        int[][] few = {{2, 0, 1}, {2, 1, 0}, {2, 0, 0}, {3, 0, 3}, {3, 1, 0}, {4, 1, 2}, {4, 2, 1}, {5, 1, 3}, {5, 3, 1},
            {6, 2, 3}, {6, 3, 2}, {6, 0, 6}};
        for (int[] f : few) {
            due.is("M " + f[0] + ": " + f[1] + " and " + f[2], Gardens.ofTwo(f[0], f[1], f[2]).tend(), 200);
        }
    }

    @Sentence(of = GARDENERS, says = "at least one of them has fewer than M / 2 keys (rounded down),")
    static void justHalfOfM(Due due) {
        int[][] enough = {{2, 1, 1}, {3, 1, 1}, {3, 1, 2}, {3, 2, 1}, {4, 2, 2}, {5, 2, 2}, {5, 2, 3}, {5, 3, 2}, {6, 3, 3}};
        for (int[] e : enough) {
            due.is("M " + e[0] + ": " + e[1] + " and " + e[2], Gardens.ofTwo(e[0], e[1], e[2]).tend(), -1);
        }
    }

    @Sentence(of = GARDENERS, says = "and no reader (of whatever kind) stands on either;")
    static void readerThatWalksStandsThere(Due due) {
        LanternTree left = Due.garden(Gardens.TWO_LEAVES + "r010s0d010d020");
        due.is("reader(0, 2) on the left", left.reader(0, 2), 0);
        due.is("tend() with it on the left", left.tend(), -1);
        LanternTree right = Due.garden(Gardens.TWO_LEAVES + "r040s0d010d020");
        due.is("reader(0, 2) on the right", right.reader(0, 2), 0);
        due.is("tend() with it on the right", right.tend(), -1);
        right.send(0, 40);
        due.is("tend() with it on the root", right.tend(), 200);
    }

    @Sentence(of = GARDENERS, says = "and no reader (of whatever kind) stands on either;")
    static void readerThatHasFoundStandsThere(Due due) {
        LanternTree left = Due.garden(Gardens.TWO_LEAVES + "r010s0s0d010d020");
        due.is("reader(0, 2) on the left", left.reader(0, 2), 1);
        due.is("tend() with it on the left", left.tend(), -1);
        LanternTree right = Due.garden(Gardens.TWO_LEAVES + "r040s0s0d010d020");
        due.is("reader(0, 2) on the right", right.reader(0, 2), 1);
        due.is("tend() with it on the right", right.tend(), -1);
    }

    @Sentence(of = GARDENERS, says = "and no reader (of whatever kind) stands on either;")
    static void readerThatHasNotFoundStandsThere(Due due) {
        LanternTree left = Due.garden(Gardens.TWO_LEAVES + "r011s0s0d010d020");
        due.is("reader(0, 2) on the left", left.reader(0, 2), 2);
        due.is("tend() with it on the left", left.tend(), -1);
        LanternTree right = Due.garden(Gardens.TWO_LEAVES + "r041s0s0d010d020");
        due.is("reader(0, 2) on the right", right.reader(0, 2), 2);
        due.is("tend() with it on the right", right.tend(), -1);
    }

    @Sentence(of = GARDENERS, says = "and no reader (of whatever kind) stands on either;")
    static void readerThatIsOutOfOilStandsThere(Due due) {
        LanternTree tree = Gardens.withADryReader(25);
        tree.pour(0, 2);
        due.is("step(0)", tree.step(0), 0);
        tree.insert(22);
        tree.insert(25);
        due.is("tend() splits leaf 0", tree.tend(), 100);
        due.is("step(0) to the right", tree.step(0), 0);
        due.is("reader(0, 2)", tree.reader(0, 2), 3);
        tree.remove(10);
        tree.remove(20);
        due.is("tend() with it on the left", tree.tend(), -1);
        tree.send(0, 25);
        due.is("tend() with it on the root", tree.tend(), 200);
    }

    @Sentence(of = GARDENERS, says = "and no reader (of whatever kind) stands on either;")
    static void readersStandOnBoth(Due due) {
        LanternTree tree = Due.garden(Gardens.TWO_LEAVES + "r010r040s0s1d010d020");
        due.is("node(0, 5)", tree.node(0, 5), 1);
        due.is("node(1, 5)", tree.node(1, 5), 1);
        due.is("tend()", tree.tend(), -1);
    }

    @Sentence(of = GARDENERS, says = "of several the leftmost such leaf.")
    static void leftmostOfTwoMerges(Due due) {
        LanternTree tree = Due.garden(Gardens.THREE_LEAVES + "d020");
        due.is("tend()", tree.tend(), 200);
        due.text("leaf 0", Look.node(tree, 0), "leaf [10] bound 30 link 3");
        LanternTree other = Due.garden(Gardens.THREE_LEAVES + "r010s0d020");
        due.is("tend() with a reader on leaf 0", other.tend(), 201);
        due.text("leaf 1", Look.node(other, 1), "leaf [30 40]");
    }

    @Sentence(of = GARDENERS, says = "of several the leftmost such leaf.")
    static void leftmostMergeWithTheGreaterNumber(Due due) {
        LanternTree tree = Due.garden(Gardens.THREE_LEAVES + "i011i012ti013ttr010s0s0d011d020");
        due.text("the left parent", Look.node(tree, 2), "level 1 [11 12] over [0 4 5] bound 20 link 6");
        due.text("the right parent", Look.node(tree, 6), "level 1 [30] over [1 3]");
        due.is("where the reader stands", tree.reader(0, 0), 0);
        due.is("tend()", tree.tend(), 204);
        due.is("tend() again", tree.tend(), 201);
    }

    @Sentence(of = GARDENERS, says = "It gets the keys, the bound and the link of the other one, which is gone;")
    static void mergeWithALeafThatHasABound(Due due) {
        LanternTree tree = Due.garden(Gardens.THREE_LEAVES + "d010t");
        due.text("leaf 0", Look.node(tree, 0), "leaf [20] bound 30 link 3");
        due.text("leaf 1", Look.node(tree, 1), "leaf [20] bound 30 link 3 gone");
        due.is("find(20)", tree.find(20), 1000);
        due.is("find(10)", tree.find(10), 1999);
    }

    @Sentence(of = GARDENERS, says = "It gets the keys, the bound and the link of the other one, which is gone;")
    static void mergeWithTheLastLeaf(Due due) {
        LanternTree tree = Gardens.ofTwo(6, 2, 4);
        due.is("tend()", tree.tend(), 200);
        due.text("leaf 0", Look.node(tree, 0), "leaf [0 1 200 201 202 203]");
        due.text("leaf 1", Look.node(tree, 1), "leaf [200 201 202 203] gone");
    }

    @Sentence(of = GARDENERS, says = "the parent loses that child and the key ahead of it.")
    static void parentLosesTheSecondChild(Due due) {
        LanternTree tree = Due.garden(Gardens.THREE_LEAVES + "d010t");
        due.text("the parent", Look.node(tree, 2), "level 1 [30] over [0 3]");
    }

    @Sentence(of = GARDENERS, says = "the parent loses that child and the key ahead of it.")
    static void parentLosesTheLastChild(Due due) {
        LanternTree tree = Due.garden(Gardens.THREE_LEAVES + "r010s0d020t");
        due.text("the parent", Look.node(tree, 2), "level 1 [20] over [0 1]");
    }

    @Sentence(of = GARDENERS, says = "the parent loses that child and the key ahead of it.")
    static void parentLosesItsOnlyKey(Due due) {
        LanternTree tree = Due.garden(Gardens.THREE_LEVELS + "d000t");
        due.text("the left parent", Look.node(tree, 2), "level 1 [] over [0] bound 2 link 5");
        due.is("tend(): it is not the root", tree.tend(), -1);
        due.is("find(1)", tree.find(1), 2000);
    }

    @Sentence(of = GARDENERS, says = "If the root is no leaf and has just one child, this becomes the root, and the old one is gone.")
    static void rootThatIsALeafStays(Due due) {
        LanternTree tree = Due.garden("L2i010i020");
        due.is("tend()", tree.tend(), -1);
        due.is("about(4)", tree.about(4), 0);
        due.is("about(3)", tree.about(3), 0);
    }

    @Sentence(of = GARDENERS, says = "If the root is no leaf and has just one child, this becomes the root, and the old one is gone.")
    static void rootOfTwoChildrenStays(Due due) {
        LanternTree tree = Due.garden(Gardens.TWO_LEAVES);
        due.is("tend()", tree.tend(), -1);
        due.is("about(4)", tree.about(4), 2);
    }

    @Sentence(of = GARDENERS, says = "If the root is no leaf and has just one child, this becomes the root, and the old one is gone.")
    static void rootOfOneChildIsLeft(Due due) {
        LanternTree tree = Due.garden("L2i010i020i030td010t");
        due.is("about(4)", tree.about(4), 2);
        due.is("tend()", tree.tend(), 300);
        due.is("about(4) then", tree.about(4), 0);
        due.is("about(5) then", tree.about(5), 0);
        due.is("node(2, 4)", tree.node(2, 4), 1);
        due.is("find(30)", tree.find(30), 0);
        due.is("tend() again", tree.tend(), -1);
    }
}
