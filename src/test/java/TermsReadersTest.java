/** Each sentence of "READERS" in the terms. */
public final class TermsReadersTest {
    private static final String READERS = "Terms: READERS";

    public static void main(String[] args) {
        Sentences.test(TermsReadersTest.class, args);
    }

    @Sentence(of = READERS, says = "There are at most 4 readers, numbered from 0.")
    static void fourReaders(Due due) {
        LanternTree tree = new LanternTree();
        due.is("about(10)", tree.about(10), 0);
        for (int r = 0; r < 4; r++) {
            due.is("addReader(7)", tree.addReader(7), r);
        }
        due.is("about(10)", tree.about(10), 4);
        due.is("reader(3, 1)", tree.reader(3, 1), 7);
    }

    @Sentence(of = READERS, says = "There are at most 4 readers, numbered from 0.")
    static void fifthReader(Due due) {
        LanternTree tree = Due.garden("L2r000r001r002r003");
        due.throwsState("addReader(4)", () -> tree.addReader(4));
        due.is("about(10)", tree.about(10), 4);
        due.throwsIndex("reader(4, 0)", () -> tree.reader(4, 0));
    }

    @Sentence(of = READERS, says = "A reader looks for a key; it stands on a node, at first on the root, and walks,")
    static void atFirstOnTheRoot(Due due) {
        LanternTree tree = Due.garden("L2i010i020i030r030tr040");
        due.text("on the first root", Look.reader(tree, 0), "on 0 for 30 walks, 0 steps, 0 times lost, oil 4000");
        due.text("on the new root", Look.reader(tree, 1), "on 2 for 40 walks, 0 steps, 0 times lost, oil 4000");
    }

    @Sentence(of = READERS, says = "and walks, has found its key, or has not found it, or is out of oil.")
    static void walksOrFoundOrNotOrOutOfOil(Due due) {
        LanternTree tree = Due.garden("L2i010r010");
        due.is("it walks", tree.reader(0, 2), 0);
        tree.step(0);
        due.is("it has found its key", tree.reader(0, 2), 1);
        tree.send(0, 11);
        tree.step(0);
        due.is("it has not found it", tree.reader(0, 2), 2);
        LanternTree dry = Gardens.withADryReader(40);
        dry.step(0);
        due.is("it is out of oil", dry.reader(0, 2), 3);
    }

    @Sentence(of = READERS, says = "and walks, has found its key, or has not found it, or is out of oil.")
    static void whatItFoundStays(Due due) {
        LanternTree tree = Due.garden("L2i010r010r011s0s1");
        tree.remove(10);
        tree.insert(11);
        tree.night(3);
        due.is("the key it found is removed", tree.reader(0, 2), 1);
        due.is("the key it did not find is inserted", tree.reader(1, 2), 2);
    }

    @Sentence(of = READERS, says = "It has oil, a float, at first 4.0f.")
    static void firstOil(Due due) {
        due.is("reader(0, 5)", Due.garden("L2r010").reader(0, 5), 4000);
    }

    @Sentence(of = READERS, says = "When a reader that walks or is out of oil takes a step, this happens:")
    static void oneThatHasFoundOrNotTakesNoStep(Due due) {
        LanternTree tree = Due.garden("L2i010r010r011s0s1");
        due.throwsState("step(0)", () -> tree.step(0));
        due.throwsState("step(1)", () -> tree.step(1));
        due.is("night(1)", tree.night(1), 1);
        due.text("reader 0", Look.reader(tree, 0), "on 0 for 10 found, 0 steps, 0 times lost, oil 4000");
    }

    @Sentence(of = READERS, says = "When a reader that walks or is out of oil takes a step, this happens:")
    static void oneThatIsOutOfOilTakesSteps(Due due) {
        LanternTree tree = Gardens.withADryReader(40);
        due.is("step(0)", tree.step(0), 2);
        due.is("reader(0, 2)", tree.reader(0, 2), 3);
        due.is("step(0) again", tree.step(0), 2);
        due.is("undo()", tree.undo(), 13);
    }

    @Sentence(of = READERS, says = "If it stands on a node that is gone, it is lost: it stands on the root then, and walks; that is its step.")
    static void lostOnTheOldRoot(Due due) {
        LanternTree tree = Due.garden(Gardens.ROOT_LEFT);
        due.text("ahead of it", Look.reader(tree, 0), "on 2 for 30 walks, 0 steps, 0 times lost, oil 4000");
        due.is("step(0)", tree.step(0), 0);
        due.text("lost", Look.reader(tree, 0), "on 0 for 30 walks, 0 steps, 1 times lost, oil 4000");
        due.is("step(0) again", tree.step(0), 0);
        due.text("found", Look.reader(tree, 0), "on 0 for 30 found, 0 steps, 1 times lost, oil 4000");
    }

    @Sentence(of = READERS, says = "If it stands on a node that is gone, it is lost: it stands on the root then, and walks; that is its step.")
    static void lostTwice(Due due) {
        LanternTree tree = Due.garden(Gardens.ROOT_LEFT + "i040ts0d020tt");
        due.text("on the second old root", Look.reader(tree, 0), "on 4 for 30 walks, 0 steps, 1 times lost, oil 4000");
        due.is("node(4, 4)", tree.node(4, 4), 1);
        due.is("step(0)", tree.step(0), 0);
        due.text("lost again", Look.reader(tree, 0), "on 0 for 30 walks, 0 steps, 2 times lost, oil 4000");
    }

    @Sentence(of = READERS, says = "If it stands on a node that is gone, it is lost: it stands on the root then, and walks; that is its step.")
    static void lostAndOutOfOil(Due due) {
        LanternTree tree = Gardens.withADryReader(40);
        tree.step(0);
        tree.remove(10);
        tree.remove(20);
        tree.tend();
        due.is("the root is left", tree.tend(), 300);
        due.text("ahead of it", Look.reader(tree, 0), "on 2 for 40 out of oil, 0 steps, 0 times lost, oil 250");
        due.is("step(0)", tree.step(0), 0);
        due.text("lost", Look.reader(tree, 0), "on 0 for 40 walks, 0 steps, 1 times lost, oil 250");
    }

    @Sentence(of = READERS, says = "Otherwise, if it stands on a leaf whose bound is none or greater than its key, it has found its key, if the leaf has it, or else not.")
    static void leafWithoutABound(Due due) {
        LanternTree tree = Due.garden("L2i010r010r999r000s0s1s2");
        due.is("the leaf has it", tree.reader(0, 2), 1);
        due.is("a greater one", tree.reader(1, 2), 2);
        due.is("a smaller one", tree.reader(2, 2), 2);
        LanternTree empty = Due.garden("L2r000s0");
        due.is("a leaf without keys", empty.reader(0, 2), 2);
    }

    @Sentence(of = READERS, says = "Otherwise, if it stands on a leaf whose bound is none or greater than its key, it has found its key, if the leaf has it, or else not.")
    static void boundGreaterThanTheKey(Due due) {
        LanternTree tree = Due.garden("L2i010i020i030i040r029r030t");
        due.is("the bound", tree.node(0, 2), 30);
        due.is("step(0), bound 30, key 29", tree.step(0), 0);
        due.is("reader(0, 2)", tree.reader(0, 2), 2);
        due.is("step(1), bound 30, key 30", tree.step(1), 1);
        due.is("reader(1, 2)", tree.reader(1, 2), 0);
        due.is("step(1) on leaf 1", tree.step(1), 1);
        due.is("reader(1, 2) then", tree.reader(1, 2), 1);
    }

    @Sentence(of = READERS, says = "Otherwise, let cost be 0.25f + 0.125f * (the level of the node, as a float).")
    static void costOnEachLevel(Due due) {
        LanternTree tree = Due.garden(Gardens.THREE_LEVELS + "r000");
        tree.step(0);
        due.is("behind level 2", tree.reader(0, 5), 3500);
        tree.step(0);
        due.is("behind level 1", tree.reader(0, 5), 3125);
        LanternTree right = Due.garden("L2i010i020i030r030t");
        right.step(0);
        due.is("behind level 0", right.reader(0, 5), 3750);
    }

    @Sentence(of = READERS, says = "If its oil is less than cost, it is out of oil, and stays.")
    static void oilLessThanCost(Due due) {
        LanternTree tree = Gardens.withADryReader(40);
        due.is("step(0)", tree.step(0), 2);
        due.text("with 0.25", Look.reader(tree, 0), "on 2 for 40 out of oil, 0 steps, 0 times lost, oil 250");
        tree.pour(0, 1);
        due.is("step(0)", tree.step(0), 2);
        due.text("with 0.35", Look.reader(tree, 0), "on 2 for 40 out of oil, 0 steps, 0 times lost, oil 350");
        LanternTree deep = Gardens.withADryReaderBelow();
        deep.send(0, 0);
        due.is("step(0) with 0.5", deep.step(0), 2);
        due.is("step(0) with 0.0", deep.step(0), 2);
        due.text("with 0.0", Look.reader(deep, 0), "on 2 for 0 out of oil, 1 steps, 0 times lost, oil 0");
    }

    @Sentence(of = READERS, says = "If its oil is less than cost, it is out of oil, and stays.")
    static void oilJustEnough(Due due) {
        LanternTree leaf = Gardens.withADryReaderOnALeaf();
        due.text("with 0.25", Look.reader(leaf, 0), "on 0 for 25 walks, 1 steps, 0 times lost, oil 250");
        due.is("step(0) that costs 0.25", leaf.step(0), 3);
        due.text("with 0.0", Look.reader(leaf, 0), "on 3 for 25 walks, 2 steps, 0 times lost, oil 0");
        LanternTree deep = Gardens.withADryReaderBelow();
        deep.send(0, 0);
        due.is("step(0) that costs 0.5", deep.step(0), 2);
        due.is("reader(0, 5)", deep.reader(0, 5), 0);
        due.is("reader(0, 2)", deep.reader(0, 2), 0);
    }

    @Sentence(of = READERS, says = "Otherwise its oil becomes less by cost;")
    static void onlyStepsThatGoBurnOil(Due due) {
        LanternTree tree = Due.garden(Gardens.TWO_LEAVES + "r040");
        tree.pour(0, 1);
        tree.step(0);
        due.is("4.1f - 0.375f", tree.reader(0, 5), (int) ((4.0f + 1.0f / 10.0f - 0.375f) * 1000.0f));
        LanternTree dry = Gardens.withADryReader(40);
        dry.step(0);
        due.is("out of oil", dry.reader(0, 5), 250);
    }

    @Sentence(of = READERS, says = "it goes to the right, if the\n   bound of the node is not greater than its key, or else to the child below which its key is.")
    static void toTheRightOnLevel1(Due due) {
        // Readers stand on node 2 when it is split at 2.
        LanternTree tree = Due.garden("L2i000i001i002ti003ti004tr002r001r999t");
        due.is("the bound of node 2", tree.node(2, 2), 2);
        due.is("step(0) for 2", tree.step(0), 5);
        due.is("step(1) for 1", tree.step(1), 1);
        due.is("step(2) for 999", tree.step(2), 5);
        due.is("step(0) from node 5", tree.step(0), 3);
        due.is("step(2) from node 5", tree.step(2), 4);
        due.is("reader(0, 3)", tree.reader(0, 3), 2);
    }

    @Sentence(of = READERS, says = "it goes to the right, if the\n   bound of the node is not greater than its key, or else to the child below which its key is.")
    static void toTheRightOnLevel0(Due due) {
        LanternTree tree = Due.garden("L2i010i020i030i040r030r029t");
        due.is("step(0) for 30", tree.step(0), 1);
        due.is("step(1) for 29", tree.step(1), 0);
    }

    @Sentence(of = READERS, says = "It walks then.")
    static void oneThatWasOutOfOilWalks(Due due) {
        LanternTree tree = Gardens.withADryReader(40);
        tree.step(0);
        tree.pour(0, 2);
        due.is("reader(0, 2) ahead of it", tree.reader(0, 2), 3);
        due.is("step(0)", tree.step(0), 1);
        due.is("reader(0, 2)", tree.reader(0, 2), 0);
    }

    @Sentence(of = READERS, says = "Steps 1 and 2 cost nothing.")
    static void lostWithoutALoss(Due due) {
        LanternTree tree = Gardens.withADryReader(40);
        tree.remove(10);
        tree.remove(20);
        tree.night(2);
        due.text("lost with too little oil", Look.reader(tree, 0), "on 0 for 40 walks, 0 steps, 1 times lost, oil 250");
    }

    @Sentence(of = READERS, says = "Steps 1 and 2 cost nothing.")
    static void foundWithoutOil(Due due) {
        LanternTree leaf = Gardens.withADryReaderOnALeaf();
        leaf.step(0);
        due.is("no oil", leaf.reader(0, 5), 0);
        due.is("step(0) without oil", leaf.step(0), 3);
        due.text("found", Look.reader(leaf, 0), "on 3 for 25 found, 2 steps, 0 times lost, oil 0");
    }
}
