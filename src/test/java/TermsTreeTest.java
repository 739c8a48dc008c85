/** Each sentence of "THE TREE" in the terms, and what "What it is" says of an object's calls. */
public final class TermsTreeTest {
    private static final String IS = "What it is";
    private static final String TREE = "Terms: THE TREE";

    public static void main(String[] args) {
        Sentences.test(TermsTreeTest.class, args);
    }

    @Sentence(of = IS, says = "An object is used for at most 512 calls after it has been made")
    static void theLastOf512Calls(Due due) {
        LanternTree tree = new LanternTree();
        for (int i = 0; i < 509; i++) {
            due.is("call " + i, i % 2 == 0 ? tree.insert(5) : tree.remove(5), 0);
        }
        due.is("call 510", tree.undo(), 13);
        due.is("call 511", tree.about(1), 0);
        due.is("call 512", tree.insert(5), 0);
    }

    @Sentence(of = TREE, says = "Keys are numbers from 0 to 999.")
    static void leastKey(Due due) {
        LanternTree tree = new LanternTree();
        due.is("insert(0)", tree.insert(0), 0);
        due.is("sorted(0)", tree.sorted(0), 0);
        due.is("find(0)", tree.find(0), 0);
        due.is("addReader(0)", tree.addReader(0), 0);
        due.is("send(0, 0)", tree.send(0, 0), 0);
        due.is("remove(0)", tree.remove(0), 0);
    }

    @Sentence(of = TREE, says = "Keys are numbers from 0 to 999.")
    static void greatestKey(Due due) {
        LanternTree tree = new LanternTree();
        due.is("insert(999)", tree.insert(999), 0);
        due.is("sorted(0)", tree.sorted(0), 999);
        due.is("find(999)", tree.find(999), 0);
        due.is("addReader(999)", tree.addReader(999), 0);
        due.is("send(0, 999)", tree.send(0, 999), 999);
        due.is("remove(999)", tree.remove(999), 0);
    }

    @Sentence(of = TREE, says = "Keys are numbers from 0 to 999.")
    static void keyTooSmall(Due due) {
        noKey(due, -1);
        noKey(due, Integer.MIN_VALUE);
    }

    @Sentence(of = TREE, says = "Keys are numbers from 0 to 999.")
    static void keyTooLarge(Due due) {
        noKey(due, 1000);
        noKey(due, Integer.MAX_VALUE);
    }

    private static void noKey(Due due, int key) {
        LanternTree tree = Due.garden("L3r005");
        due.throwsArgument("insert(" + key + ")", () -> tree.insert(key));
        due.throwsArgument("remove(" + key + ")", () -> tree.remove(key));
        due.throwsArgument("find(" + key + ")", () -> tree.find(key));
        due.throwsArgument("addReader(" + key + ")", () -> tree.addReader(key));
        due.throwsArgument("send(0, " + key + ")", () -> tree.send(0, key));
    }

    @Sentence(of = TREE, says = "A node has a level (0: a leaf)")
    static void levels(Due due) {
        LanternTree tree = Due.garden(Gardens.THREE_LEVELS);
        int[] levels = {0, 0, 1, 0, 0, 1, 2};
        for (int n = 0; n < levels.length; n++) {
            due.is("node(" + n + ", 0)", tree.node(n, 0), levels[n]);
        }
    }

    @Sentence(of = TREE, says = "and keys in ascending order")
    static void keysAscend(Due due) {
        LanternTree tree = Due.garden("L6i500i300i700i999i000i600i400");
        due.text("keys of the leaf", Look.keys(tree, 0), "0 300 400 500 600 700 999");
        tree.remove(500);
        due.text("keys without one in the middle", Look.keys(tree, 0), "0 300 400 600 700 999");
        tree.remove(0);
        due.text("keys without the first", Look.keys(tree, 0), "300 400 600 700 999");
        tree.remove(999);
        due.text("keys without the last", Look.keys(tree, 0), "300 400 600 700");
    }

    @Sentence(of = TREE, says = "each once")
    static void eachKeyOnce(Due due) {
        LanternTree tree = Due.garden("L6i500i500i300i300i500");
        due.text("keys of the leaf", Look.keys(tree, 0), "300 500");
        due.is("about(1)", tree.about(1), 2);
        tree.remove(500);
        due.text("keys without the one that came thrice", Look.keys(tree, 0), "300");
    }

    @Sentence(of = TREE, says = "an inner node with n keys has n + 1 children")
    static void oneChildMoreThanKeys(Due due) {
        LanternTree tree = Due.garden(Gardens.THREE_LEAVES);
        due.is("keys", tree.node(2, 1), 2);
        due.is("child(2, 2)", tree.child(2, 2), 3);
        due.is("child(2, 3)", tree.child(2, 3), -1);
    }

    @Sentence(of = TREE, says = "an inner node with n keys has n + 1 children")
    static void oneChildWithoutKeys(Due due) {
        LanternTree tree = Due.garden("L2i010i020i030td010t");
        due.text("the root", Look.node(tree, 2), "level 1 [] over [0]");
    }

    @Sentence(of = TREE, says = "nodes of the level below")
    static void childrenAreOfTheLevelBelow(Due due) {
        LanternTree tree = Due.garden(Gardens.THREE_LEVELS);
        int[] parents = {6, 6, 2, 2, 5, 5};
        for (int i = 0; i < parents.length; i++) {
            int child = tree.child(parents[i], i % 2);
            due.is("level of child " + child, tree.node(child, 0), tree.node(parents[i], 0) - 1);
        }
    }

    @Sentence(of = TREE, says = "below its child 0\nare the keys less than its key 0")
    static void keyJustLessThanKey0(Due due) {
        LanternTree tree = Due.garden(Gardens.THREE_LEAVES);
        due.is("insert(19)", tree.insert(19), 0);
        due.is("insert(0)", tree.insert(0), 0);
    }

    @Sentence(of = TREE, says = "and below each other child those from the key ahead of it on.")
    static void keyThatTheParentHas(Due due) {
        LanternTree tree = Due.garden(Gardens.THREE_LEAVES + "d020d030");
        due.is("insert(20)", tree.insert(20), 1);
        due.is("insert(29)", tree.insert(29), 1);
        due.is("insert(30)", tree.insert(30), 3);
        due.is("insert(999)", tree.insert(999), 3);
    }

    @Sentence(of = TREE, says = "A node has a bound (all keys below it are less than that) or none")
    static void keyJustLessThanTheBound(Due due) {
        LanternTree tree = Due.garden(Gardens.TWO_LEAVES + "i029");
        due.text("leaf 0", Look.node(tree, 0), "leaf [10 20 29] bound 30 link 1");
        due.text("leaf 1", Look.node(tree, 1), "leaf [30 40]");
    }

    @Sentence(of = TREE, says = "and a link to the next node to the right on\nits level, or none")
    static void linksOfALevel(Due due) {
        LanternTree tree = Due.garden(Gardens.THREE_LEVELS);
        int[] links = {1, 3, 5, 4, -1, -1, -1};
        for (int n = 0; n < links.length; n++) {
            due.is("node(" + n + ", 3)", tree.node(n, 3), links[n]);
        }
    }

    @Sentence(of = TREE, says = "it has both or neither.")
    static void boundAndLinkOrNeither(Due due) {
        LanternTree tree = Due.garden(Gardens.THREE_LEVELS + "d000tt");
        for (int n = 0; n < tree.about(2); n++) {
            due.is("node(" + n + ")", tree.node(n, 2) == -1 ? 1 : 0, tree.node(n, 3) == -1 ? 1 : 0);
        }
        due.text("a new object", Look.node(new LanternTree(), 0), "leaf []");
    }

    @Sentence(of = TREE, says = "There is a root; at first it is a leaf without keys.")
    static void firstRoot(Due due) {
        LanternTree tree = new LanternTree();
        due.is("about(4)", tree.about(4), 0);
        due.is("about(5)", tree.about(5), 0);
        due.text("the root", Look.node(tree, 0), "leaf []");
    }

    @Sentence(of = TREE, says = "Nodes are numbered from 0 in the order in which they are made (the first root is 0)")
    static void numbersOfNodes(Due due) {
        LanternTree tree = Due.garden("L2i010i020i030");
        due.is("about(4)", tree.about(4), 0);
        due.throwsIndex("node(1, 0)", () -> tree.node(1, 0));
        tree.tend();
        due.is("the new leaf", tree.node(0, 3), 1);
        due.is("the new root", tree.about(4), 2);
        tree.insert(40);
        tree.tend();
        due.is("the next leaf", tree.node(1, 3), 3);
    }

    @Sentence(of = TREE, says = "at most 60 are ever\nmade")
    static void sixtyNodes(Due due) {
        LanternTree tree = Gardens.ofNodes(60);
        due.is("about(2)", tree.about(2), 60);
        due.text("the last one", Look.node(tree, 59), "leaf [58 59]");
        due.throwsIndex("node(60, 0)", () -> tree.node(60, 0));
        tree.insert(60);
        due.is("tend()", tree.tend(), -1);
        due.is("about(2) still", tree.about(2), 60);
    }

    @Sentence(of = TREE, says = "at most 60 are ever\nmade")
    static void nodesThatAreGoneCountToo(Due due) {
        LanternTree tree = Gardens.ofNodes(60);
        for (int key = 0; key < 60; key++) {
            tree.remove(key);
        }
        due.is("work()", tree.work(), 59);
        for (int i = 0; i < 58; i++) {
            due.is("a merge", tree.tend(), 200);
        }
        due.is("the root is left", tree.tend(), 300);
        due.is("about(3)", tree.about(3), 59);
        tree.insert(1);
        tree.insert(2);
        tree.insert(3);
        due.is("tend() with a leaf too full", tree.tend(), -1);
        due.is("about(2)", tree.about(2), 60);
    }

    @Sentence(of = TREE, says = "a node that was merged into another one, or a root that was left, is gone, and keeps its number.")
    static void mergedNodeIsGone(Due due) {
        LanternTree tree = Due.garden(Gardens.THREE_LEAVES + "d010t");
        due.is("node(1, 4)", tree.node(1, 4), 1);
        due.is("about(3)", tree.about(3), 1);
        due.is("about(2)", tree.about(2), 4);
        tree.insert(50);
        due.is("tend() splits", tree.tend(), 103);
        due.is("the new node is not 1", tree.node(3, 3), 4);
        due.text("node 1", Look.node(tree, 1), "leaf [20] bound 30 link 3 gone");
    }

    @Sentence(of = TREE, says = "a node that was merged into another one, or a root that was left, is gone, and keeps its number.")
    static void leftRootIsGone(Due due) {
        LanternTree tree = Due.garden(Gardens.ROOT_LEFT);
        due.is("node(2, 4)", tree.node(2, 4), 1);
        due.is("about(3)", tree.about(3), 2);
        tree.insert(40);
        due.is("tend() splits", tree.tend(), 100);
        due.is("the new leaf", tree.node(0, 3), 3);
        due.is("the new root", tree.about(4), 4);
        due.text("node 2", Look.node(tree, 2), "level 1 [] over [0] gone");
    }

    @Sentence(of = TREE, says = "The order M is from 2 to 6, at first 3.")
    static void leastAndGreatestOrder(Due due) {
        due.is("about(0) of L2", Due.garden("L2").about(0), 2);
        due.is("about(0) of L6", Due.garden("L6").about(0), 6);
    }

    @Sentence(of = TREE, says = "The order M is from 2 to 6, at first 3.")
    static void orderTooSmallOrTooLarge(Due due) {
        String[] texts = {"L1", "L7", "L0", "L9"};
        for (String text : texts) {
            LanternTree tree = new LanternTree();
            Due.write(tree, text);
            due.is("errorPosition() of " + text, tree.errorPosition(), 1);
            due.throwsState("load() of " + text, tree::load);
        }
    }

    @Sentence(of = TREE, says = "The order M is from 2 to 6, at first 3.")
    static void firstOrder(Due due) {
        due.is("about(0)", new LanternTree().about(0), 3);
    }

    @Sentence(of = TREE, says = "A node is too full if it has more\nthan M keys")
    static void leafWithMKeysAndWithOneMore(Due due) {
        for (int order = 2; order <= 6; order++) {
            LanternTree tree = Due.garden("L" + order);
            for (int i = 0; i < order; i++) {
                tree.insert(i);
            }
            due.is("M " + order + ": about(7) with M keys", tree.about(7), 0);
            due.is("M " + order + ": tend() with M keys", tree.tend(), -1);
            tree.insert(order);
            due.is("M " + order + ": about(7) with one more", tree.about(7), 1);
            due.is("M " + order + ": tend() with one more", tree.tend(), 100);
        }
    }

    @Sentence(of = TREE, says = "A node is too full if it has more\nthan M keys")
    static void innerNodeWithMKeysAndWithOneMore(Due due) {
        LanternTree tree = Due.garden(Gardens.THREE_LEAVES);
        due.is("about(7) with M keys", tree.about(7), 0);
        due.is("tend() with M keys", tree.tend(), -1);
        tree.insert(50);
        due.is("tend() splits a leaf", tree.tend(), 103);
        due.is("about(7) with one more", tree.about(7), 1);
        due.is("tend() with one more", tree.tend(), 102);
    }

    @Sentence(of = TREE, says = "a leaf cannot have more than 2 * M.")
    static void leafWithTwiceMKeys(Due due) {
        for (int order = 2; order <= 6; order++) {
            LanternTree tree = Due.garden("L" + order);
            for (int i = 0; i < 2 * order; i++) {
                due.is("M " + order + ": insert(" + i + ")", tree.insert(i), 0);
            }
            due.is("M " + order + ": node(0, 1)", tree.node(0, 1), 2 * order);
            due.throwsState("M " + order + ": insert(999)", () -> tree.insert(999));
            due.is("M " + order + ": node(0, 1) still", tree.node(0, 1), 2 * order);
        }
    }

    @Sentence(of = TREE, says = "a leaf cannot have more than 2 * M.")
    static void twoLeavesWithTwiceMKeys(Due due) {
        LanternTree tree = Gardens.ofTwo(6, 12, 12);
        due.text("leaf 0", Look.keys(tree, 0), "0 1 2 3 4 5 6 7 8 9 10 11");
        due.text("leaf 1", Look.keys(tree, 1), "200 201 202 203 204 205 206 207 208 209 210 211");
        due.throwsState("insert(12)", () -> tree.insert(12));
        due.throwsState("insert(212)", () -> tree.insert(212));
    }

    @Sentence(of = TREE, says = "Keys of the tree are those in its leaves; inner nodes may keep keys that are no more in the tree.")
    static void innerNodeKeepsAKey(Due due) {
        LanternTree tree = Due.garden(Gardens.TWO_LEAVES + "d030");
        due.text("the root", Look.node(tree, 2), "level 1 [30] over [0 1]");
        due.is("about(1)", tree.about(1), 3);
        due.text("sorted", Look.sorted(tree), "10 20 40");
        due.is("find(30)", tree.find(30), 1999);
        due.is("runScript(1, 70030)", tree.runScript(1, 70030L), 0);
        due.is("remove(30)", tree.remove(30), -1);
    }

    @Sentence(of = TREE, says = "Keys of the tree are those in its leaves; inner nodes may keep keys that are no more in the tree.")
    static void keysOfGoneLeavesCountOnce(Due due) {
        LanternTree tree = Due.garden(Gardens.ROOT_LEFT);
        due.text("keys of the gone leaf", Look.keys(tree, 1), "20 30");
        due.is("about(1)", tree.about(1), 2);
        due.text("sorted", Look.sorted(tree), "20 30");
    }

    @Sentence(of = TREE, says = "as long as the node has a bound that is not greater than the key, go to the right")
    static void boundIsTheKey(Due due) {
        LanternTree tree = Due.garden("L2i010i020i030i040r030r029t");
        due.is("the bound", tree.node(0, 2), 30);
        due.is("step(0) for 30", tree.step(0), 1);
        due.is("step(1) for 29", tree.step(1), 0);
        due.is("reader(1, 2)", tree.reader(1, 2), 2);
    }

    @Sentence(of = TREE, says = "as long as the node has a bound that is not greater than the key, go to the right")
    static void toTheRightThrice(Due due) {
        LanternTree tree = Due.garden("L2i000i001i002r004ti003ti004t");
        int[] leaves = {1, 3, 4};
        for (int leaf : leaves) {
            due.is("step(0)", tree.step(0), leaf);
            due.is("reader(0, 2)", tree.reader(0, 2), 0);
        }
        tree.step(0);
        due.text("at the end", Look.reader(tree, 0), "on 4 for 4 found, 3 steps, 0 times lost, oil 3250");
    }

    @Sentence(of = TREE, says = "then, if it is no leaf, to the child below which the key is (of the number of its keys that are\nnot greater than the key), and so on.")
    static void childForAKey(Due due) {
        LanternTree tree = Due.garden(Gardens.THREE_LEAVES);
        int[][] keyAndLeaf = {{0, 0}, {19, 0}, {20, 1}, {21, 1}, {29, 1}, {30, 3}, {31, 3}, {999, 3}};
        for (int[] k : keyAndLeaf) {
            tree.insert(k[0]);
            due.is("find(" + k[0] + ")", tree.find(k[0]), 1000 + k[1]);
            tree.undo();
        }
    }

    @Sentence(of = TREE, says = "then, if it is no leaf, to the child below which the key is (of the number of its keys that are\nnot greater than the key), and so on.")
    static void andSoOn(Due due) {
        LanternTree tree = Due.garden(Gardens.THREE_LEVELS);
        int[] leaves = {0, 1, 3, 4, 4};
        for (int key = 0; key < leaves.length; key++) {
            due.is("find(" + key + ")", tree.find(key), 2000 + leaves[key]);
        }
    }

    @Sentence(of = TREE, says = "To look for a key from a node means:")
    static void lookingDoesNotEndAtAnInnerNode(Due due) {
        LanternTree tree = Due.garden(Gardens.THREE_LEVELS + "d002");
        due.is("find(2), which the root keeps", tree.find(2), 2999);
        due.is("addReader(2)", tree.addReader(2), 0);
        due.is("step(0)", tree.step(0), 5);
        due.is("step(0)", tree.step(0), 3);
        due.is("step(0)", tree.step(0), 3);
        due.is("reader(0, 2)", tree.reader(0, 2), 2);
    }
}
