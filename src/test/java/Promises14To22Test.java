/** Each sentence of the promises 14 to 22: the actions, and undo. */
public final class Promises14To22Test {
    private static final String P14 = "Promise 14: insert";
    private static final String P15 = "Promise 15: remove";
    private static final String P16 = "Promise 16: tend";
    private static final String P17 = "Promise 17: night";
    private static final String P18 = "Promise 18: addReader";
    private static final String P19 = "Promise 19: send";
    private static final String P20 = "Promise 20: step";
    private static final String P21 = "Promise 21: pour";
    private static final String P22 = "Promise 22: undo";
    private static final String KEY = "`key`: 0 to 999";
    private static final String NO_KEY = "Throws `IllegalArgumentException` if key is out of range";
    private static final String READER = "`r`: reader";
    private static final String NO_READER = "Throws `IndexOutOfBoundsException` if there is no such reader";
    private static final String TENDED = "Returns 100 * (1: a split; 2: a merge; 3: the root was left) + (the node that is split, that gets the keys, or that is the root then); NONE if there is nothing that they can do.";
    private static final String NIGHT = "A night goes by: n times, the gardeners tend the tree (if they can), and then each reader, ascending, that walks or is out of oil takes a step.";
    private static final String SENT = "Sends a reader out again: it looks for a key from the root, and walks; its oil stays, its steps and how often it was lost are 0.";

    private static final int[] WRONG_KEYS = {-1, 1000, Integer.MIN_VALUE, Integer.MAX_VALUE};

    public static void main(String[] args) {
        Sentences.test(Promises14To22Test.class, args);
    }

    @Sentence(of = P14, says = "Inserts a key into the leaf at which one comes when one looks for it from the root.")
    static void leafForAKey(Due due) {
        LanternTree tree = Due.garden(Gardens.THREE_LEAVES);
        due.is("insert(19)", tree.insert(19), 0);
        due.is("insert(21)", tree.insert(21), 1);
        due.is("insert(31)", tree.insert(31), 3);
        due.text("leaf 0", Look.keys(tree, 0), "10 19");
        due.text("leaf 1", Look.keys(tree, 1), "20 21");
        due.text("leaf 3", Look.keys(tree, 3), "30 31 40");
    }

    @Sentence(of = P14, says = "Inserts a key into the leaf at which one comes when one looks for it from the root.")
    static void insertAtEachPlace(Due due) {
        LanternTree tree = Due.garden("L6i200i400");
        tree.insert(300);
        due.text("in the middle", Look.keys(tree, 0), "200 300 400");
        tree.insert(100);
        due.text("at the beginning", Look.keys(tree, 0), "100 200 300 400");
        tree.insert(500);
        due.text("at the end", Look.keys(tree, 0), "100 200 300 400 500");
    }

    @Sentence(of = P14, says = "Inserts a key into the leaf at which one comes when one looks for it from the root.")
    static void insertIntoALeafWithoutKeys(Due due) {
        LanternTree tree = Due.garden(Gardens.THREE_LEAVES + "d020");
        due.is("insert(25)", tree.insert(25), 1);
        due.is("insert(20)", tree.insert(20), 1);
        due.text("leaf 1", Look.keys(tree, 1), "20 25");
    }

    @Sentence(of = P14, says = KEY)
    static void insertTheLeastAndTheGreatestKey(Due due) {
        LanternTree tree = Due.garden(Gardens.TWO_LEAVES);
        due.is("insert(0)", tree.insert(0), 0);
        due.is("insert(999)", tree.insert(999), 1);
        due.text("sorted", Look.sorted(tree), "0 10 20 30 40 999");
    }

    @Sentence(of = P14, says = "Returns the leaf; NONE if it has the key already.")
    static void insertAKeyTwice(Due due) {
        LanternTree tree = Due.garden(Gardens.TWO_LEAVES);
        due.is("insert(25)", tree.insert(25), 0);
        due.is("insert(25) again", tree.insert(25), -1);
        due.is("about(1)", tree.about(1), 5);
    }

    @Sentence(of = P14, says = "Returns the leaf; NONE if it has the key already.")
    static void insertAKeyThatAFullLeafHas(Due due) {
        LanternTree tree = Due.garden("L2i001i002i003i004");
        for (int key = 1; key <= 4; key++) {
            due.is("insert(" + key + ")", tree.insert(key), -1);
        }
    }

    @Sentence(of = P14, says = "Returns the leaf; NONE if it has the key already.")
    static void insertAKeyThatOnlyAnInnerNodeHas(Due due) {
        LanternTree tree = Due.garden(Gardens.TWO_LEAVES + "d030");
        due.is("insert(30)", tree.insert(30), 1);
    }

    @Sentence(of = P14, says = NO_KEY)
    static void insertNoKey(Due due) {
        LanternTree tree = new LanternTree();
        for (int key : WRONG_KEYS) {
            due.throwsArgument("insert(" + key + ")", () -> tree.insert(key));
        }
    }

    @Sentence(of = P14, says = "Throws `IllegalStateException` if the leaf does not have the key, but 2 * M others")
    static void insertIntoAFullLeaf(Due due) {
        for (int order = 2; order <= 6; order++) {
            LanternTree tree = Due.garden("L" + order);
            for (int i = 1; i < 2 * order; i++) {
                tree.insert(10 * i);
            }
            due.is("the last that fits", tree.insert(500), 0);
            due.throwsState("insert(5) into " + order, () -> tree.insert(5));
            due.throwsState("insert(15) into " + order, () -> tree.insert(15));
            due.throwsState("insert(999) into " + order, () -> tree.insert(999));
            tree.remove(10);
            due.is("insert(5) with room again", tree.insert(5), 0);
        }
    }

    @Sentence(of = P14, says = "Throws `IllegalStateException` if the leaf does not have the key, but 2 * M others")
    static void fullLeafBesideOneWithRoom(Due due) {
        LanternTree tree = Due.garden(Gardens.TWO_LEAVES + "i050i060");
        due.throwsState("insert(70) into leaf 1", () -> tree.insert(70));
        due.is("insert(25) into leaf 0", tree.insert(25), 0);
        due.is("tend() splits leaf 0", tree.tend(), 100);
        due.throwsState("insert(70) still", () -> tree.insert(70));
        due.is("tend() splits leaf 1", tree.tend(), 101);
        due.is("insert(70) then", tree.insert(70), 4);
    }

    @Sentence(of = P15, says = "Removes a key from its leaf.")
    static void removeFromEachPlace(Due due) {
        LanternTree tree = Due.garden("L6i100i200i300i400i500");
        tree.remove(300);
        due.text("from the middle", Look.keys(tree, 0), "100 200 400 500");
        tree.remove(100);
        due.text("from the beginning", Look.keys(tree, 0), "200 400 500");
        tree.remove(500);
        due.text("from the end", Look.keys(tree, 0), "200 400");
        tree.remove(200);
        tree.remove(400);
        due.text("the last one", Look.keys(tree, 0), "");
    }

    @Sentence(of = P15, says = KEY)
    static void removeTheLeastAndTheGreatestKey(Due due) {
        LanternTree tree = Due.garden("L2i000i500i999t");
        due.is("remove(0)", tree.remove(0), 0);
        due.is("remove(999)", tree.remove(999), 1);
        due.text("sorted", Look.sorted(tree), "500");
    }

    @Sentence(of = P15, says = "Returns the leaf; NONE if the tree does not have it.")
    static void removeAKeyTwice(Due due) {
        LanternTree tree = Due.garden(Gardens.TWO_LEAVES);
        due.is("remove(40)", tree.remove(40), 1);
        due.is("remove(40) again", tree.remove(40), -1);
        due.is("remove(10)", tree.remove(10), 0);
        due.is("about(1)", tree.about(1), 2);
    }

    @Sentence(of = P15, says = "Returns the leaf; NONE if the tree does not have it.")
    static void removeAKeyThatIsNotThere(Due due) {
        due.is("of a new object", new LanternTree().remove(0), -1);
        LanternTree tree = Due.garden(Gardens.TWO_LEAVES + "d030");
        due.is("one that only the root has", tree.remove(30), -1);
        due.is("one between two", tree.remove(15), -1);
        due.is("one less than all", tree.remove(0), -1);
        due.is("one greater than all", tree.remove(999), -1);
        LanternTree left = Due.garden(Gardens.ROOT_LEFT + "d020");
        due.is("one that only a gone leaf has", left.remove(20), -1);
    }

    @Sentence(of = P15, says = NO_KEY)
    static void removeNoKey(Due due) {
        LanternTree tree = Due.garden(Gardens.TWO_LEAVES);
        for (int key : WRONG_KEYS) {
            due.throwsArgument("remove(" + key + ")", () -> tree.remove(key));
        }
        due.is("about(1)", tree.about(1), 4);
    }

    @Sentence(of = P16, says = "The gardeners tend the tree.")
    static void tendDoesOneJob(Due due) {
        LanternTree tree = Due.garden("L2i010i020i030");
        tree.tend();
        due.is("about(8)", tree.about(8), 1);
        due.is("about(2)", tree.about(2), 3);
    }

    @Sentence(of = P16, says = "The gardeners tend the tree.")
    static void tendMovesNoReader(Due due) {
        LanternTree tree = Due.garden("L2i010i020i030r030");
        tree.tend();
        due.text("reader 0", Look.reader(tree, 0), "on 0 for 30 walks, 0 steps, 0 times lost, oil 4000");
    }

    @Sentence(of = P16, says = TENDED)
    static void tendSplits(Due due) {
        LanternTree tree = Due.garden(Gardens.TWO_LEAVES + "i050");
        due.is("the leaf that is split, not the new one", tree.tend(), 101);
        due.is("the root", Due.garden("L2i000i001i002ti003ti004t").tend(), 102);
    }

    @Sentence(of = P16, says = TENDED)
    static void tendMerges(Due due) {
        LanternTree tree = Due.garden(Gardens.THREE_LEAVES + "r010s0d020");
        due.is("the leaf that gets the keys, not the one that is gone", tree.tend(), 201);
        due.is("node(3, 4)", tree.node(3, 4), 1);
    }

    @Sentence(of = P16, says = TENDED)
    static void tendLeavesTheRoot(Due due) {
        LanternTree tree = Due.garden("L2i010i020i030td010t");
        due.is("the new root, not the old one", tree.tend(), 300);
    }

    @Sentence(of = P16, says = TENDED)
    static void tendWithNothingToDo(Due due) {
        due.is("a new object", new LanternTree().tend(), -1);
        due.is("M keys", Due.garden("L2i010i020").tend(), -1);
        due.is("two leaves", Due.garden(Gardens.TWO_LEAVES).tend(), -1);
        due.is("the root is too full, but has no room", Gardens.ofNodes(59).tend(), -1);
    }

    @Sentence(of = P17, says = NIGHT)
    static void gardenersGoAheadOfReaders(Due due) {
        LanternTree tree = Due.garden("L2i010i020i030i040r030");
        due.is("night(1)", tree.night(1), 0);
        due.text("split first, then a step to the right", Look.reader(tree, 0),
            "on 1 for 30 walks, 1 steps, 0 times lost, oil 3750");
    }

    @Sentence(of = P17, says = NIGHT)
    static void eachTimeBothTendAndStep(Due due) {
        // Merge and step; root left and lost; nothing and found.
        LanternTree tree = Due.garden("L2i010i020i030tr030d010");
        LanternTree first = Due.garden("L2i010i020i030tr030d010");
        due.is("night(1)", first.night(1), 0);
        due.text("behind night(1)", Look.reader(first, 0), "on 0 for 30 walks, 1 steps, 0 times lost, oil 3625");
        due.is("night(2)", tree.night(2), 1);
        due.is("about(9)", tree.about(9), 1);
        due.is("about(4)", tree.about(4), 0);
        due.is("reader(0, 2)", tree.reader(0, 2), 1);
        due.is("reader(0, 4)", tree.reader(0, 4), 0);
    }

    @Sentence(of = P17, says = NIGHT)
    static void readersGoAscending(Due due) {
        LanternTree tree = Due.garden(Gardens.TWO_LEAVES + "r010r020r030r040");
        due.is("night(1)", tree.night(1), 0);
        int[] nodes = {0, 0, 1, 1};
        for (int r = 0; r < nodes.length; r++) {
            due.is("reader(" + r + ", 0)", tree.reader(r, 0), nodes[r]);
        }
        due.is("night(1) again", tree.night(1), 4);
    }

    @Sentence(of = P17, says = NIGHT)
    static void onesThatAreDoneTakeNoStep(Due due) {
        LanternTree tree = Due.garden("L2i010r010r011s0s1");
        due.is("night(5)", tree.night(5), 1);
        due.text("found", Look.reader(tree, 0), "on 0 for 10 found, 0 steps, 0 times lost, oil 4000");
        due.text("not found", Look.reader(tree, 1), "on 0 for 11 not found, 0 steps, 0 times lost, oil 4000");
    }

    @Sentence(of = P17, says = NIGHT)
    static void onesOutOfOilTakeSteps(Due due) {
        LanternTree tree = Gardens.withADryReader(40);
        due.is("night(1)", tree.night(1), 0);
        due.is("reader(0, 2)", tree.reader(0, 2), 3);
        due.is("night(1) still", tree.night(1), 0);
        tree.pour(0, 2);
        due.is("night(1) with oil", tree.night(1), 0);
        due.is("reader(0, 0)", tree.reader(0, 0), 1);
        due.is("night(1) on the leaf", tree.night(1), 1);
    }

    @Sentence(of = P17, says = NIGHT)
    static void gardenersWithNothingToDo(Due due) {
        LanternTree tree = new LanternTree();
        due.is("night(40)", tree.night(40), 0);
        due.text("the state", Look.all(tree), Look.all(new LanternTree()));
    }

    @Sentence(of = P17, says = NIGHT)
    static void manyJobsInOneNight(Due due) {
        LanternTree tree = Gardens.ofNodes(40);
        for (int key = 0; key < 40; key++) {
            tree.remove(key);
        }
        int work = tree.work();
        int done = tree.about(8) + tree.about(9);
        due.is("more than a night's work", work > 40 ? 1 : 0, 1);
        tree.night(40);
        due.is("splits and merges in it", tree.about(8) + tree.about(9) - done, 40);
        due.is("work() behind it", tree.work(), work - 40);
    }

    @Sentence(of = P17, says = "`n`: 1 to 40")
    static void shortestAndLongestNight(Due due) {
        LanternTree one = Due.garden(Gardens.TWO_LEAVES + "r040");
        due.is("night(1)", one.night(1), 0);
        due.is("reader(0, 3)", one.reader(0, 3), 1);
        LanternTree all = Due.garden(Gardens.TWO_LEAVES + "r040");
        due.is("night(40)", all.night(40), 1);
        due.is("undo()", all.undo(), 0);
    }

    @Sentence(of = P17, says = "Returns the number of readers that have found their keys then.")
    static void foundEarlierCountsToo(Due due) {
        LanternTree tree = Due.garden("L2i010r010r011r010s0");
        due.is("night(1)", tree.night(1), 2);
        due.is("night(1) of none", new LanternTree().night(1), 0);
        due.is("night(1) of four", Due.garden("L2i010r010r010r010r010").night(1), 4);
    }

    @Sentence(of = P17, says = "Throws `IllegalArgumentException` if n is out of range")
    static void nightTooShortOrTooLong(Due due) {
        LanternTree tree = Due.garden("L2i010i020i030r010");
        int[] wrong = {0, -1, 41, Integer.MIN_VALUE, Integer.MAX_VALUE};
        for (int n : wrong) {
            due.throwsArgument("night(" + n + ")", () -> tree.night(n));
        }
        due.is("about(8)", tree.about(8), 0);
    }

    @Sentence(of = P18, says = "A reader comes.")
    static void newReader(Due due) {
        LanternTree tree = Due.garden(Gardens.TWO_LEAVES);
        tree.addReader(40);
        due.is("about(10)", tree.about(10), 1);
        due.text("reader 0", Look.reader(tree, 0), "on 2 for 40 walks, 0 steps, 0 times lost, oil 4000");
    }

    @Sentence(of = P18, says = "A reader comes.")
    static void newReaderHasNothingOfOneTakenBack(Due due) {
        LanternTree tree = Due.garden(Gardens.TWO_LEAVES);
        tree.addReader(40);
        tree.step(0);
        tree.pour(0, 50);
        tree.undo();
        tree.undo();
        tree.undo();
        tree.addReader(10);
        due.text("reader 0", Look.reader(tree, 0), "on 2 for 10 walks, 0 steps, 0 times lost, oil 4000");
    }

    @Sentence(of = P18, says = KEY)
    static void readerOfTheLeastAndTheGreatestKey(Due due) {
        LanternTree tree = new LanternTree();
        tree.addReader(0);
        tree.addReader(999);
        due.is("reader(0, 1)", tree.reader(0, 1), 0);
        due.is("reader(1, 1)", tree.reader(1, 1), 999);
    }

    @Sentence(of = P18, says = "Returns its number.")
    static void numbersOfReaders(Due due) {
        LanternTree tree = new LanternTree();
        for (int r = 0; r < 4; r++) {
            due.is("addReader(5)", tree.addReader(5), r);
        }
        tree.undo();
        due.is("addReader(5) behind undo()", tree.addReader(5), 3);
    }

    @Sentence(of = P18, says = NO_KEY)
    static void readerOfNoKey(Due due) {
        LanternTree tree = new LanternTree();
        for (int key : WRONG_KEYS) {
            due.throwsArgument("addReader(" + key + ")", () -> tree.addReader(key));
        }
        due.is("about(10)", tree.about(10), 0);
    }

    @Sentence(of = P18, says = "Throws `IllegalStateException` if there are 4 readers")
    static void readerBesideFour(Due due) {
        LanternTree tree = Due.garden("L2r001r001r001");
        due.is("addReader(1), the fourth", tree.addReader(1), 3);
        due.throwsState("addReader(1), the fifth", () -> tree.addReader(1));
        due.throwsArgument("addReader(1000)", () -> tree.addReader(1000));
        due.is("about(10)", tree.about(10), 4);
    }

    @Sentence(of = P19, says = SENT)
    static void sendOneThatHasFound(Due due) {
        LanternTree tree = Due.garden(Gardens.TWO_LEAVES + "r040s0s0");
        tree.send(0, 10);
        due.text("reader 0", Look.reader(tree, 0), "on 2 for 10 walks, 0 steps, 0 times lost, oil 3625");
    }

    @Sentence(of = P19, says = SENT)
    static void sendOneThatHasNotFound(Due due) {
        LanternTree tree = Due.garden(Gardens.TWO_LEAVES + "r041s0s0");
        tree.send(0, 41);
        due.text("reader 0", Look.reader(tree, 0), "on 2 for 41 walks, 0 steps, 0 times lost, oil 3625");
    }

    @Sentence(of = P19, says = SENT)
    static void sendOneThatWasLost(Due due) {
        LanternTree tree = Due.garden(Gardens.ROOT_LEFT + "s0");
        due.is("reader(0, 4)", tree.reader(0, 4), 1);
        tree.send(0, 20);
        due.text("reader 0", Look.reader(tree, 0), "on 0 for 20 walks, 0 steps, 0 times lost, oil 4000");
    }

    @Sentence(of = P19, says = SENT)
    static void sendOneThatStandsOnAGoneNode(Due due) {
        LanternTree tree = Due.garden(Gardens.ROOT_LEFT);
        tree.send(0, 20);
        due.text("reader 0", Look.reader(tree, 0), "on 0 for 20 walks, 0 steps, 0 times lost, oil 4000");
    }

    @Sentence(of = P19, says = SENT)
    static void sendOneThatIsOutOfOil(Due due) {
        LanternTree tree = Gardens.withADryReader(40);
        tree.step(0);
        tree.send(0, 10);
        due.text("reader 0", Look.reader(tree, 0), "on 2 for 10 walks, 0 steps, 0 times lost, oil 250");
    }

    @Sentence(of = P19, says = READER)
    static void sendTheLastReader(Due due) {
        LanternTree tree = Due.garden("L2r000r001r002r003");
        due.is("send(3, 9)", tree.send(3, 9), 3);
        due.is("send(0, 9)", tree.send(0, 9), 0);
        due.is("reader(1, 1)", tree.reader(1, 1), 1);
    }

    @Sentence(of = P19, says = KEY)
    static void sendForTheLeastAndTheGreatestKey(Due due) {
        LanternTree tree = Due.garden("L2r005");
        due.is("send(0, 0)", tree.send(0, 0), 5);
        due.is("send(0, 999)", tree.send(0, 999), 0);
        due.is("reader(0, 1)", tree.reader(0, 1), 999);
    }

    @Sentence(of = P19, says = "Returns the key for which it looked before.")
    static void keyBeforeSend(Due due) {
        LanternTree tree = Due.garden("L2r005");
        due.is("send(0, 6)", tree.send(0, 6), 5);
        due.is("send(0, 6) again", tree.send(0, 6), 6);
    }

    @Sentence(of = P19, says = NO_READER)
    static void sendNoReader(Due due) {
        LanternTree tree = Due.garden("L2r001r001");
        int[] none = {-1, 2, 3, 4, Integer.MIN_VALUE, Integer.MAX_VALUE};
        for (int r : none) {
            due.throwsIndex("send(" + r + ", 5)", () -> tree.send(r, 5));
            due.throwsIndex("send(" + r + ", 1000)", () -> tree.send(r, 1000));
        }
    }

    @Sentence(of = P19, says = NO_KEY)
    static void sendForNoKey(Due due) {
        LanternTree tree = Due.garden("L2r001s0");
        for (int key : WRONG_KEYS) {
            due.throwsArgument("send(0, " + key + ")", () -> tree.send(0, key));
        }
        due.is("reader(0, 2)", tree.reader(0, 2), 2);
    }

    @Sentence(of = P20, says = "A reader takes a step.")
    static void stepOfOneReader(Due due) {
        LanternTree tree = Due.garden(Gardens.TWO_LEAVES + "r040r010");
        tree.step(1);
        due.text("reader 0", Look.reader(tree, 0), "on 2 for 40 walks, 0 steps, 0 times lost, oil 4000");
        due.text("reader 1", Look.reader(tree, 1), "on 0 for 10 walks, 1 steps, 0 times lost, oil 3625");
    }

    @Sentence(of = P20, says = READER)
    static void stepOfTheLastReader(Due due) {
        LanternTree tree = Due.garden("L2r000r001r002r003");
        tree.step(3);
        due.is("reader(3, 2)", tree.reader(3, 2), 2);
        due.is("reader(2, 2)", tree.reader(2, 2), 0);
    }

    @Sentence(of = P20, says = "Returns the node on which it stands then.")
    static void nodeBehindEachKindOfStep(Due due) {
        due.is("to a child", Due.garden(Gardens.TWO_LEAVES + "r040").step(0), 1);
        due.is("to the right", Due.garden("L2i010i020i030i040r040t").step(0), 1);
        due.is("found", Due.garden(Gardens.TWO_LEAVES + "r040s0").step(0), 1);
        due.is("not found", Due.garden(Gardens.TWO_LEAVES + "r041s0").step(0), 1);
        due.is("lost", Due.garden(Gardens.ROOT_LEFT).step(0), 0);
        due.is("out of oil", Gardens.withADryReader(40).step(0), 2);
    }

    @Sentence(of = P20, says = NO_READER)
    static void stepOfNoReader(Due due) {
        LanternTree tree = Due.garden("L2r001r001");
        int[] none = {-1, 2, 3, 4, Integer.MIN_VALUE, Integer.MAX_VALUE};
        for (int r : none) {
            due.throwsIndex("step(" + r + ")", () -> tree.step(r));
        }
    }

    @Sentence(of = P20, says = "Throws `IllegalStateException` if it has found its key, or not found it")
    static void stepOfOneThatIsDone(Due due) {
        LanternTree tree = Due.garden("L2i010r010r011s0s1");
        due.throwsState("step(0) when it has found", () -> tree.step(0));
        due.throwsState("step(1) when it has not found", () -> tree.step(1));
        tree.send(0, 10);
        due.is("step(0) when it is sent out again", tree.step(0), 0);
    }

    @Sentence(of = P20, says = "Throws `IllegalStateException` if it has found its key, or not found it")
    static void stepOfOneOutOfOilThrowsNothing(Due due) {
        LanternTree tree = Gardens.withADryReader(40);
        tree.step(0);
        due.is("reader(0, 2)", tree.reader(0, 2), 3);
        due.is("step(0)", tree.step(0), 2);
    }

    @Sentence(of = P21, says = "Gives oil to a reader.")
    static void oilGoesToOneReader(Due due) {
        LanternTree tree = Due.garden("L2r001r002");
        tree.pour(1, 10);
        due.is("reader(0, 5)", tree.reader(0, 5), 4000);
        due.is("reader(1, 5)", tree.reader(1, 5), 5000);
    }

    @Sentence(of = P21, says = "Gives oil to a reader.")
    static void oilAloneChangesNothingElse(Due due) {
        LanternTree tree = Gardens.withADryReader(40);
        tree.step(0);
        tree.pour(0, 99);
        due.text("out of oil", Look.reader(tree, 0), "on 2 for 40 out of oil, 0 steps, 0 times lost, oil 10150");
        LanternTree done = Due.garden("L2r001s0");
        due.is("pour(0, 5) to one that is done", done.pour(0, 5), 4500);
        due.is("reader(0, 2)", done.reader(0, 2), 2);
    }

    @Sentence(of = P21, says = READER)
    static void oilForTheLastReader(Due due) {
        LanternTree tree = Due.garden("L2r000r001r002r003");
        due.is("pour(3, 10)", tree.pour(3, 10), 5000);
        due.is("reader(2, 5)", tree.reader(2, 5), 4000);
    }

    @Sentence(of = P21, says = "`tenths`: 1 to 99: its oil becomes more by (float) tenths / 10.0f, but 16.0f at most")
    static void leastAndMostTenths(Due due) {
        due.is("pour(0, 1)", Due.garden("L2r001").pour(0, 1), (int) ((4.0f + 1.0f / 10.0f) * 1000.0f));
        due.is("pour(0, 99)", Due.garden("L2r001").pour(0, 99), (int) ((4.0f + 99.0f / 10.0f) * 1000.0f));
    }

    @Sentence(of = P21, says = "`tenths`: 1 to 99: its oil becomes more by (float) tenths / 10.0f, but 16.0f at most")
    static void sixteenAtMost(Due due) {
        LanternTree tree = Due.garden("L2r001");
        due.is("pour(0, 90)", tree.pour(0, 90), 13000);
        due.is("pour(0, 30) to just 16", tree.pour(0, 30), 16000);
        due.is("pour(0, 1) to 16", tree.pour(0, 1), 16000);
        due.is("pour(0, 99) to 16", tree.pour(0, 99), 16000);
        tree.undo();
        tree.undo();
        tree.undo();
        due.is("pour(0, 29) to just less", tree.pour(0, 29), (int) ((13.0f + 29.0f / 10.0f) * 1000.0f));
        due.is("pour(0, 2) over it", tree.pour(0, 2), 16000);
    }

    @Sentence(of = P21, says = "`tenths`: 1 to 99: its oil becomes more by (float) tenths / 10.0f, but 16.0f at most")
    static void eachNumberOfTenths(Due due) {
        for (int tenths = 1; tenths <= 99; tenths++) {
            LanternTree tree = Gardens.withADryReader(40);
            due.is("pour(0, " + tenths + ")", tree.pour(0, tenths), (int) ((0.25f + (float) tenths / 10.0f) * 1000.0f));
        }
    }

    @Sentence(of = P21, says = "Returns (int) (its oil * 1000.0f) then.")
    static void oilThen(Due due) {
        LanternTree tree = Due.garden("L2r001");
        float oil = 4.0f;
        for (int i = 0; i < 100; i++) {
            oil = oil + 1.0f / 10.0f;
            due.is("pour(0, 1)", tree.pour(0, 1), (int) (oil * 1000.0f));
            due.is("reader(0, 5)", tree.reader(0, 5), (int) (oil * 1000.0f));
        }
    }

    @Sentence(of = P21, says = NO_READER)
    static void oilForNoReader(Due due) {
        LanternTree tree = Due.garden("L2r001r001");
        int[] none = {-1, 2, 3, 4, Integer.MIN_VALUE, Integer.MAX_VALUE};
        for (int r : none) {
            due.throwsIndex("pour(" + r + ", 1)", () -> tree.pour(r, 1));
            due.throwsIndex("pour(" + r + ", 0)", () -> tree.pour(r, 0));
        }
    }

    @Sentence(of = P21, says = "Throws `IllegalArgumentException` if tenths is out of range")
    static void tooFewOrTooManyTenths(Due due) {
        LanternTree tree = Due.garden("L2r001");
        int[] wrong = {0, -1, 100, Integer.MIN_VALUE, Integer.MAX_VALUE};
        for (int tenths : wrong) {
            due.throwsArgument("pour(0, " + tenths + ")", () -> tree.pour(0, tenths));
        }
        due.is("reader(0, 5)", tree.reader(0, 5), 4000);
    }

    @Sentence(of = P22, says = "Takes back the last action that is remembered.")
    static void lastActionIsTakenBack(Due due) {
        LanternTree tree = Due.garden(Gardens.THREE_LEAVES + "r040");
        tree.insert(11);
        String before = Look.all(tree);
        tree.night(7);
        tree.undo();
        due.text("the state", Look.all(tree), before);
        tree.undo();
        due.text("sorted", Look.sorted(tree), "10 20 30 40");
    }

    @Sentence(of = P22, says = "Takes back the last action that is remembered.")
    static void splitAndMergeAreTakenBack(Due due) {
        LanternTree tree = Due.garden("L2i010i020i030");
        tree.tend();
        tree.remove(10);
        tree.tend();
        tree.tend();
        due.is("undo() of the root that was left", tree.undo(), 3);
        due.is("about(4)", tree.about(4), 2);
        due.is("undo() of the merge", tree.undo(), 2);
        due.is("node(1, 4)", tree.node(1, 4), 0);
        due.text("leaf 0", Look.node(tree, 0), "leaf [] bound 20 link 1");
        tree.undo();
        due.is("undo() of the split", tree.undo(), 0);
        due.is("about(2)", tree.about(2), 1);
        due.throwsIndex("node(1, 0)", () -> tree.node(1, 0));
        due.text("leaf 0", Look.node(tree, 0), "leaf [10 20 30]");
    }

    @Sentence(of = P22, says = "Returns how many states are still remembered.")
    static void statesStillRemembered(Due due) {
        LanternTree tree = new LanternTree();
        for (int i = 0; i < 20; i++) {
            tree.remove(i);
        }
        for (int left = 13; left >= 0; left--) {
            due.is("undo()", tree.undo(), left);
        }
    }

    @Sentence(of = P22, says = "Throws `IllegalStateException` if none is remembered")
    static void noneIsRemembered(Due due) {
        LanternTree tree = new LanternTree();
        due.throwsState("undo() of a new object", tree::undo);
        tree.tend();
        due.is("undo()", tree.undo(), 0);
        due.throwsState("undo() again", tree::undo);
        due.throwsState("undo() still", tree::undo);
        tree.tend();
        due.is("undo() of a new action", tree.undo(), 0);
    }
}
